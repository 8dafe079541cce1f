/-! the reference -/
theorem mkN_lt {T : UInt64} (hT : ft_P T) : ∀ n j, n + j = 8 → mkN T n j < 8 → ft_z T < ft_z (FP.i2d (nI (tb_MD (mkN T n j + 1))))
  | 0, j, h, h8 => by unfold mkN at h8; omega
  | n + 1, j, h, h8 => by
    unfold mkN at h8 ⊢
    split
    · rename_i h1
      exact (ft_gt (md_P (by omega)) hT).mp h1
    · rename_i h1
      rw [if_neg h1] at h8
      exact mkN_lt hT n (j + 1) (by omega) h8
theorem md_mono : ∀ i, i < 9 → ∀ j, j < 9 → i ≤ j → tb_MD i ≤ tb_MD j := by decide
theorem md_90 : FP.i2d (nI (tb_MD 8)) = 4636033603912859648 := by decide +kernel
theorem mk_8 {T : UInt64} (hT : ft_P T) (h : ¬ FP.dcmp T 4636033603912859648 = some .lt) : mk T = 8 := by
  rw [← md_90, ft_lt hT (md_P (by decide))] at h
  have h1 := mk_le T
  refine Nat.le_antisymm h1 (Nat.le_of_not_lt fun h2 => h ?_)
  refine Nat.lt_of_lt_of_le (mkN_lt hT 8 0 rfl h2) ?_
  rw [(md_all (mkN T 8 0 + 1) (by unfold mk at h2; omega)).2, (md_all 8 (by decide)).2]
  exact Nat.mul_le_mul_right _ (md_mono _ (by unfold mk at h2; omega) 8 (by decide) (by unfold mk at h2; omega))
theorem mk_n8 {T : UInt64} (hT : ft_P T) (h : FP.dcmp T 4636033603912859648 = some .lt) : mk T < 8 := by
  rw [← md_90, ft_lt hT (md_P (by decide))] at h
  refine Nat.lt_of_le_of_ne (mk_le T) fun h2 => ?_
  have := (mk_in hT).1
  rw [h2] at this
  omega
theorem ft_nlt0 {T : UInt64} (hT : ft_P T) : FP.dcmp T 0 ≠ some .lt := by
  rw [Ne, ft_lt hT ft_0P, ft_0z]
  exact Nat.not_lt_zero _
/-- the reference's rows, by the class' -/
def rmp (r : Nat) : Nat := if r < 4 then r else if r = 4 then 8 else r - 1
theorem rmp_tb : ∀ r, r < 9 → ∀ j, j < 9 → tb_RW (9 * r + j) = tb_TB (rmp r * 9 + j) := by decide +kernel
theorem rmp_pt : ∀ r, r < 9 → (r < 4 ↔ rmp r < 4) := by decide +kernel
theorem rmp_lt : ∀ r, r < 9 → rmp r < 9 := by decide +kernel
theorem tvN {r j : Nat} {pt : UInt64} (hr : r < 9) (hj : j < 9) (hpt : pt = if rmp r < 4 then 4620693217682128896 else 4661225614328463360) : FP.ddiv (FP.i2d (nI (tb_RW (9 * r + j)))) pt = tv (rmp r) j := by
  unfold tv
  rw [rmp_tb r hr j hj, hpt]
set_option maxHeartbeats 4000000 in
set_option maxRecDepth 100000 in
/-- a row at the mash's temperature -/
theorem cN_row (l : Launch) (dC : Nat → ClassId) (dI : Nat → Nat → Nat) (tt : Nat → Nat) (sz : Nat) (ad : Nat → Nat) (cA : Nat → ClassId) (a : Nat → UInt64) (Tm Ac : UInt64) (gt lt : Int32) (ts : UInt64) (nw st : Int32) (hs : Nat → Int32) (ht : Nat → UInt64) (dc : Int32) (pa : Nat → UInt64) (ib : Nat → Int32) (ac : Nat → UInt64) (r : Nat) (hr9 : r < 9) (hTm : ft_P Tm) : Ct l dC dI tt yN_row bN_row 9 (some .double) ({ frames := 0, cells := 0, slots := 0, locals := 0 }) (tN cA) [.ref (ad 0), .int (nI r)] (wN ad cA a Tm Ac gt lt ts nw st hs ht dc pa ib ac) sz (fun A => ctQd dC dI (tN cA) (rwv Tm (rmp r) (mk Tm)) (wN ad cA a Tm Ac gt lt ts nw st hs ht dc pa ib ac) A) := by
  refine ct_of (by decide) (Nat.le_of_ble_eq_true rfl) ?_
  intro p e s m below meth c A ls hx hb hr hts hown hml hlocks hnm hA hS hP hK hD hT hl
  have hl : lv_has ls 9 [(0, .ref (ad 0)), (1, .int (nI r))] := hl
  have hr9m := rmp_lt r hr9
  have key15 : ∀ (pt : UInt64) (hpt : pt = if rmp r < 4 then 4620693217682128896 else 4661225614328463360) (ls : Array Slot) (H : Heap) (locs : List Loc), va_P (dC, dI) cls (wN ad cA a Tm Ac gt lt ts nw st hs ht dc pa ib ac) H → va_D A (wN ad cA a Tm Ac gt lt ts nw st hs ht dc pa ib ac) → va_S A s.heap H locs → lv_has ls 9 [(2, .double pt), (1, .int (nI r)), (0, .ref (ad 0))] → W p l e ({ frames := 0, cells := 0, slots := 0, locals := 0 } : Room) s m ([.ref (ad 0), .int (nI r)] : List Value).toArray below meth c H locs 0 0 (MQ below (ctQd dC dI (tN cA) (rwv Tm (rmp r) (mk Tm)) (wN ad cA a Tm Ac gt lt ts nw st hs ht dc pa ib ac) A) ([.ref (ad 0), .int (nI r)] : List Value).toArray s 0 0 A) (F0 m 15 ls []) := by
    intro pt hpt ls H locs hP hD hS hl
    refine lv_aload_n hx hb dN_row_15 rfl (lv_at hl 2 rfl) ?_
    refine va_get (D := (dC, dI)) (ci := 3) (v := .double Tm) (C := "MashEnzymesModel") (T := F_N) (N := 14) hx hb hts in_N hown hK hP 0 rfl rfl 1 (by decide) (hts _ tw_f_N_62) (fun _ h9 => h9) rfl dN_row_16 ?_
    refine lv_dconst0 hx hb dN_row_19 ?_
    refine ct_topd (y := 0) rfl ?_
    refine lv_dcmp hx hb dN_row_20 ?_
    refine lv_if_ge (tgt := 36) hx hb dN_row_21 (by decide) (fun c_1 => ?_) (fun c_1 => ?_)
    · refine lv_aload_n hx hb dN_row_36 rfl (lv_at hl 2 rfl) ?_
      refine va_get (D := (dC, dI)) (ci := 3) (v := .double Tm) (C := "MashEnzymesModel") (T := F_N) (N := 14) hx hb hts in_N hown hK hP 0 rfl rfl 1 (by decide) (hts _ tw_f_N_62) (fun _ h9 => h9) rfl dN_row_37 ?_
      refine lv_ldc2d hx hb hown (hts _ tw_d_N_84) dN_row_40 ?_
      refine lv_dcmp hx hb dN_row_43 ?_
      refine lv_if_lt (tgt := 62) hx hb dN_row_44 (by decide) (fun c_2 => ?_) (fun c_2 => ?_)
      · have hm8 : mk Tm < 8 := mk_n8 hTm ((cvn_l (by rw [← md_90]; exact ft_some hTm (md_P (by decide)))).mp c_2)
        have hok := rw_ok hTm hr9m hm8
        have key9 : ∀ (n j : Nat) (ls : Array Slot), n + j = 8 → mkN Tm n j = mk Tm → lv_has ls 9 [(4, .int (nI j)), (2, .double pt), (1, .int (nI r)), (0, .ref (ad 0))] → W p l e ({ frames := 0, cells := 0, slots := 0, locals := 0 } : Room) s m ([.ref (ad 0), .int (nI r)] : List Value).toArray below meth c H locs 0 0 (MQ below (ctQd dC dI (tN cA) (rwv Tm (rmp r) (mk Tm)) (wN ad cA a Tm Ac gt lt ts nw st hs ht dc pa ib ac) A) ([.ref (ad 0), .int (nI r)] : List Value).toArray s 0 0 A) (F0 m 65 ls []) := by
          intro n
          induction n with
          | zero =>
            intro j ls hn9 hm hl
            have hj9 : j = mk Tm := hm
            omega
          | succ n ih =>
            intro j ls hn9 hm hl
            refine lv_aload_n hx hb dN_row_65 rfl (lv_at hl 3 rfl) ?_
            refine va_get (D := (dC, dI)) (ci := 3) (v := .double Tm) (C := "MashEnzymesModel") (T := F_N) (N := 14) hx hb hts in_N hown hK hP 0 rfl rfl 1 (by decide) (hts _ tw_f_N_62) (fun _ h9 => h9) rfl dN_row_66 ?_
            refine va_gets hx hb hT.2.2.2.2.1.1 hS hown (hts _ tw_f_N_86) (fun _ h9 => h9) dN_row_69 ?_
            refine lv_iload hx hb dN_row_72 (lv_at hl 0 rfl) ?_
            refine lv_iconst (v := 1) hx hb dN_row_74 (by decide) ?_
            refine lv_iadd hx hb dN_row_75 ?_
            refine ct_topi (y := nI (j + 1)) (nI_1 j) ?_
            refine ct_tab (k := (j + 1)) (v := nI (tb_MD (j + 1))) hx hb hT.2.2.2.2.1 hS (vp_in_nI (by omega) (by decide)) (nI_clamp (by omega)) (rfl) dN_row_76 ?_
            refine lv_i2d hx hb dN_row_77 ?_
            refine lv_dcmp hx hb dN_row_78 ?_
            refine lv_if_lt (tgt := 88) hx hb dN_row_79 (by decide) (fun c_3 => ?_) (fun c_3 => ?_)
            · have hlt := (cvn_l (ft_some hTm (md_P (by omega)))).mp c_3
              have hg : FP.dcmp (FP.i2d (nI (tb_MD (j + 1)))) Tm = some .gt := by rw [ft_gt (md_P (by omega)) hTm]; exact (ft_lt hTm (md_P (by omega))).mp hlt
              have hj9 : j = mk Tm := by unfold mkN at hm; rw [if_pos hg] at hm; exact hm
              subst hj9
              refine va_gets hx hb hT.2.2.2.2.2.1 hS hown (hts _ tw_f_N_81) (fun _ h9 => h9) dN_row_88 ?_
              refine lv_bipush (v := 9) hx hb dN_row_91 (by decide) ?_
              refine lv_iload_n hx hb dN_row_93 rfl (lv_at hl 2 rfl) ?_
              refine lv_imul hx hb dN_row_94 ?_
              refine ct_topi (y := nI (9 * r)) (by rw [show (9 : Int32) = nI 9 from rfl, pk_mul]) ?_
              refine lv_iload hx hb dN_row_95 (lv_at hl 0 rfl) ?_
              refine lv_iadd hx hb dN_row_97 ?_
              refine ct_topi (y := nI (9 * r + mk Tm)) (nI_add _ _) ?_
              refine ct_tab (k := (9 * r + mk Tm)) (v := nI (tb_RW (9 * r + mk Tm))) hx hb hT.2.2.2.2.2 hS (vp_in_nI (by omega) (by decide)) (nI_clamp (by omega)) (rfl) dN_row_98 ?_
              refine lv_i2d hx hb dN_row_99 ?_
              refine lv_dload_n hx hb dN_row_100 rfl (lv_at hl 1 rfl) ?_
              refine lv_ddiv hx hb dN_row_101 (by rw [tvN hr9 (by omega) hpt]; exact (tv_P hr9m (by omega)).n) ?_
              refine ct_topd (y := tv (rmp r) (mk Tm)) (tvN hr9 (by omega) hpt) ?_
              refine lv_dstore (lv' := [(5, .double (tv (rmp r) (mk Tm))), (4, .int (nI (mk Tm))), (2, .double pt), (1, .int (nI r)), (0, .ref (ad 0))]) hx hb dN_row_102 hl (by decide) rfl (fun ls hl => ?_)
              refine va_gets hx hb hT.2.2.2.2.2.1 hS hown (hts _ tw_f_N_81) (fun _ h9 => h9) dN_row_104 ?_
              refine lv_bipush (v := 9) hx hb dN_row_107 (by decide) ?_
              refine lv_iload_n hx hb dN_row_109 rfl (lv_at hl 3 rfl) ?_
              refine lv_imul hx hb dN_row_110 ?_
              refine ct_topi (y := nI (9 * r)) (by rw [show (9 : Int32) = nI 9 from rfl, pk_mul]) ?_
              refine lv_iload hx hb dN_row_111 (lv_at hl 1 rfl) ?_
              refine lv_iadd hx hb dN_row_113 ?_
              refine ct_topi (y := nI (9 * r + mk Tm)) (nI_add _ _) ?_
              refine lv_iconst (v := 1) hx hb dN_row_114 (by decide) ?_
              refine lv_iadd hx hb dN_row_115 ?_
              refine ct_topi (y := nI (9 * r + (mk Tm + 1))) (nI_1 _) ?_
              refine ct_tab (k := (9 * r + (mk Tm + 1))) (v := nI (tb_RW (9 * r + (mk Tm + 1)))) hx hb hT.2.2.2.2.2 hS (vp_in_nI (by omega) (by decide)) (nI_clamp (by omega)) (rfl) dN_row_116 ?_
              refine lv_i2d hx hb dN_row_117 ?_
              refine lv_dload_n hx hb dN_row_118 rfl (lv_at hl 2 rfl) ?_
              refine lv_ddiv hx hb dN_row_119 (by rw [tvN hr9 (by omega) hpt]; exact (tv_P hr9m (by omega)).n) ?_
              refine ct_topd (y := tv (rmp r) (mk Tm + 1)) (tvN hr9 (by omega) hpt) ?_
              refine lv_dstore (lv' := [(7, .double (tv (rmp r) (mk Tm + 1))), (5, .double (tv (rmp r) (mk Tm))), (4, .int (nI (mk Tm))), (2, .double pt), (1, .int (nI r)), (0, .ref (ad 0))]) hx hb dN_row_120 hl (by decide) rfl (fun ls hl => ?_)
              refine lv_dload hx hb dN_row_122 (lv_at hl 1 rfl) ?_
              refine lv_dload hx hb dN_row_124 (lv_at hl 0 rfl) ?_
              refine lv_dload hx hb dN_row_126 (lv_at hl 1 rfl) ?_
              refine lv_dsub hx hb dN_row_128 (hok.1) ?_
              refine lv_aload_n hx hb dN_row_129 rfl (lv_at hl 5 rfl) ?_
              refine va_get (D := (dC, dI)) (ci := 3) (v := .double Tm) (C := "MashEnzymesModel") (T := F_N) (N := 14) hx hb hts in_N hown hK hP 0 rfl rfl 1 (by decide) (hts _ tw_f_N_62) (fun _ h9 => h9) rfl dN_row_130 ?_
              refine va_gets hx hb hT.2.2.2.2.1.1 hS hown (hts _ tw_f_N_86) (fun _ h9 => h9) dN_row_133 ?_
              refine lv_iload hx hb dN_row_136 (lv_at hl 2 rfl) ?_
              refine ct_tab (k := (mk Tm)) (v := nI (tb_MD (mk Tm))) hx hb hT.2.2.2.2.1 hS (vp_in_nI (by omega) (by decide)) (nI_clamp (by omega)) (rfl) dN_row_138 ?_
              refine lv_i2d hx hb dN_row_139 ?_
              refine lv_dsub hx hb dN_row_140 (hok.2.1) ?_
              refine lv_dmul hx hb dN_row_141 (hok.2.2.1) ?_
              refine va_gets hx hb hT.2.2.2.2.1.1 hS hown (hts _ tw_f_N_86) (fun _ h9 => h9) dN_row_142 ?_
              refine lv_iload hx hb dN_row_145 (lv_at hl 2 rfl) ?_
              refine lv_iconst (v := 1) hx hb dN_row_147 (by decide) ?_
              refine lv_iadd hx hb dN_row_148 ?_
              refine ct_topi (y := nI (mk Tm + 1)) (nI_1 _) ?_
              refine ct_tab (k := (mk Tm + 1)) (v := nI (tb_MD (mk Tm + 1))) hx hb hT.2.2.2.2.1 hS (vp_in_nI (by omega) (by decide)) (nI_clamp (by omega)) (rfl) dN_row_149 ?_
              refine va_gets hx hb hT.2.2.2.2.1.1 hS hown (hts _ tw_f_N_86) (fun _ h9 => h9) dN_row_150 ?_
              refine lv_iload hx hb dN_row_153 (lv_at hl 2 rfl) ?_
              refine ct_tab (k := (mk Tm)) (v := nI (tb_MD (mk Tm))) hx hb hT.2.2.2.2.1 hS (vp_in_nI (by omega) (by decide)) (nI_clamp (by omega)) (rfl) dN_row_155 ?_
              refine lv_isub hx hb dN_row_156 ?_
              refine lv_i2d hx hb dN_row_157 ?_
              refine lv_ddiv hx hb dN_row_158 (hok.2.2.2.1) ?_
              refine lv_dadd hx hb dN_row_159 (hok.2.2.2.2.1.n) ?_
              exact ct_dret hx hb hr hlocks hP hK hD hS (by unfold rwv; rw [if_pos hm8]) dN_row_160
            · have hg : ¬ FP.dcmp (FP.i2d (nI (tb_MD (j + 1)))) Tm = some .gt := fun h => c_3 ((cvn_l (ft_some hTm (md_P (by omega)))).mpr (by rw [ft_lt hTm (md_P (by omega))]; exact (ft_gt (md_P (by omega)) hTm).mp h))
              unfold mkN at hm
              rw [if_neg hg] at hm
              refine lv_iinc (v := (nI (j + 1))) (lv' := [(4, .int (nI (j + 1))), (2, .double pt), (1, .int (nI r)), (0, .ref (ad 0))]) hx hb dN_row_82 hl (k := 0) rfl (nI_1 j) (by decide) rfl (fun ls hl => ?_)
              refine lv_goto (tgt := 65) hx hb dN_row_85 (by decide) ?_
              exact ih (j + 1) ls (by omega) hm (lv_sub hl [0, 1, 2, 3] rfl)
        refine lv_iconst (v := 0) hx hb dN_row_62 (by decide) ?_
        refine ct_topi (y := nI 0) (rfl) ?_
        refine lv_istore (lv' := [(4, .int (nI 0)), (2, .double pt), (1, .int (nI r)), (0, .ref (ad 0))]) hx hb dN_row_63 hl (by decide) rfl (fun ls hl => ?_)
        exact key9 8 0 ls rfl rfl (lv_sub hl [0, 1, 2, 3] rfl)
      · have hm8 : mk Tm = 8 := mk_8 hTm fun h => c_2 ((cvn_l (by rw [← md_90]; exact ft_some hTm (md_P (by decide)))).mpr h)
        refine va_gets hx hb hT.2.2.2.2.2.1 hS hown (hts _ tw_f_N_81) (fun _ h9 => h9) dN_row_47 ?_
        refine lv_bipush (v := 9) hx hb dN_row_50 (by decide) ?_
        refine lv_iload_n hx hb dN_row_52 rfl (lv_at hl 1 rfl) ?_
        refine lv_imul hx hb dN_row_53 ?_
        refine ct_topi (y := nI (9 * r)) (by rw [show (9 : Int32) = nI 9 from rfl, pk_mul]) ?_
        refine lv_bipush (v := 8) hx hb dN_row_54 (by decide) ?_
        refine lv_iadd hx hb dN_row_56 ?_
        refine ct_topi (y := nI (9 * r + 8)) (by rw [show (8 : Int32) = nI 8 from rfl, nI_add]) ?_
        refine ct_tab (k := (9 * r + 8)) (v := nI (tb_RW (9 * r + 8))) hx hb hT.2.2.2.2.2 hS (vp_in_nI (by omega) (by decide)) (nI_clamp (by omega)) (rfl) dN_row_57 ?_
        refine lv_i2d hx hb dN_row_58 ?_
        refine lv_dload_n hx hb dN_row_59 rfl (lv_at hl 0 rfl) ?_
        refine lv_ddiv hx hb dN_row_60 (by rw [tvN hr9 (by decide) hpt]; exact (tv_P hr9m (by decide)).n) ?_
        refine ct_topd (y := tv (rmp r) 8) (tvN hr9 (by decide) hpt) ?_
        exact ct_dret hx hb hr hlocks hP hK hD hS (by unfold rwv; rw [if_neg (by omega)]) dN_row_61
    · exact (absurd ((cv_g_ge _).mpr (ft_nlt0 hTm)) c_1)
  refine lv_iload_n hx hb dN_row_0 rfl (lv_at hl 1 rfl) ?_
  refine lv_iconst (v := 4) hx hb dN_row_1 (by decide) ?_
  refine lv_icmp_ge (tgt := 11) hx hb dN_row_2 (by decide) (fun c_4 => ?_) (fun c_4 => ?_)
  · refine lv_ldc2d hx hb hown (hts _ tw_d_N_79) dN_row_11 ?_
    refine lv_dstore_n (lv' := [(2, .double 4661225614328463360), (0, .ref (ad 0)), (1, .int (nI r))]) hx hb dN_row_14 rfl hl (by decide) rfl (fun ls hl => ?_)
    exact key15 _ (by rw [if_neg (fun h => by have h1 := (rmp_pt r hr9).mpr h; have := (nI_leI (a := 4) (b := r) (by decide) (by omega)).mp c_4; omega)]) ls _ _ hP hD hS (lv_sub hl [0, 2, 1] rfl)
  · refine lv_ldc2d hx hb hown (hts _ tw_d_N_60) dN_row_5 ?_
    refine lv_goto (tgt := 14) hx hb dN_row_8 (by decide) ?_
    refine lv_dstore_n (lv' := [(2, .double 4620693217682128896), (0, .ref (ad 0)), (1, .int (nI r))]) hx hb dN_row_14 rfl hl (by decide) rfl (fun ls hl => ?_)
    exact key15 _ (by rw [if_pos ((rmp_pt r hr9).mp (Nat.lt_of_not_le fun h => c_4 ((nI_leI (a := 4) (b := r) (by decide) (by omega)).mpr h)))]) ls _ _ hP hD hS (lv_sub hl [0, 2, 1] rfl)

set_option maxHeartbeats 4000000 in
set_option maxRecDepth 100000 in
/-- empty -/
theorem cN_isEmpty (l : Launch) (dC : Nat → ClassId) (dI : Nat → Nat → Nat) (tt : Nat → Nat) (sz : Nat) (ad : Nat → Nat) (cA : Nat → ClassId) (a : Nat → UInt64) (Tm Ac : UInt64) (gt lt : Int32) (ts : UInt64) (nw st : Int32) (hs : Nat → Int32) (ht : Nat → UInt64) (dc : Int32) (pa : Nat → UInt64) (ib : Nat → Int32) (ac : Nat → UInt64) : Ct l dC dI tt yN_isEmpty bN_isEmpty 1 (some .boolean) ({ frames := 0, cells := 0, slots := 0, locals := 0 }) (tN cA) [.ref (ad 0)] (wN ad cA a Tm Ac gt lt ts nw st hs ht dc pa ib ac) sz (fun A => ctQc dC dI (tN cA) (gt = 0 ∨ lt = 0) 1 (wN ad cA a Tm Ac gt lt ts nw st hs ht dc pa ib ac) 0 (wN ad cA a Tm Ac gt lt ts nw st hs ht dc pa ib ac) A) := by
  refine ct_of (by decide) (Nat.le_of_ble_eq_true rfl) ?_
  intro p e s m below meth c A ls hx hb hr hts hown hml hlocks hnm hA hS hP hK hD hT hl
  have hl : lv_has ls 1 [(0, .ref (ad 0))] := hl
  refine lv_aload_n hx hb dN_isEmpty_0 rfl (lv_at hl 0 rfl) ?_
  refine va_get (D := (dC, dI)) (ci := 3) (v := .int gt) (C := "MashEnzymesModel") (T := F_N) (N := 14) hx hb hts in_N hown hK hP 0 rfl rfl 3 (by decide) (hts _ tw_f_N_50) (fun _ h9 => h9) rfl dN_isEmpty_1 ?_
  refine lv_if_eq (tgt := 14) hx hb dN_isEmpty_4 (by decide) (fun c_1 => ?_) (fun c_1 => ?_)
  · refine lv_iconst (v := 1) hx hb dN_isEmpty_14 (by decide) ?_
    refine lv_goto (tgt := 19) hx hb dN_isEmpty_15 (by decide) ?_
    exact ct_ret1 hx hb hr rfl hlocks hP hK hD hS (Or.inl c_1) rfl dN_isEmpty_19
  · refine lv_aload_n hx hb dN_isEmpty_7 rfl (lv_at hl 0 rfl) ?_
    refine va_get (D := (dC, dI)) (ci := 3) (v := .int lt) (C := "MashEnzymesModel") (T := F_N) (N := 14) hx hb hts in_N hown hK hP 0 rfl rfl 4 (by decide) (hts _ tw_f_N_68) (fun _ h9 => h9) rfl dN_isEmpty_8 ?_
    refine lv_if_ne (tgt := 18) hx hb dN_isEmpty_11 (by decide) (fun c_2 => ?_) (fun c_2 => ?_)
    · refine lv_iconst (v := 0) hx hb dN_isEmpty_18 (by decide) ?_
      exact ct_ret0 hx hb hr rfl hlocks hP hK hD hS (fun h => h.elim c_1 c_2) rfl dN_isEmpty_19
    · refine lv_iconst (v := 1) hx hb dN_isEmpty_14 (by decide) ?_
      refine lv_goto (tgt := 19) hx hb dN_isEmpty_15 (by decide) ?_
      exact ct_ret1 hx hb hr rfl hlocks hP hK hD hS (Or.inr c_2) rfl dN_isEmpty_19

/-- the reference's second: amounts, actions, now, T -/
abbrev SN : Type := (Nat → UInt64) × (Nat → UInt64) × Int32 × UInt64
def snT (hs : Nat → Int32) (ht : Nat → UInt64) (c0 : Nat) (u : SN) : UInt64 := heatT hs ht c0 (fst hs u.2.2.1 c0 0) u.2.2.1 u.2.2.2
def snR (hs : Nat → Int32) (ht : Nat → UInt64) (c0 : Nat) (u : SN) : Nat → UInt64 := rwA (snT hs ht c0 u) 9 (fun _ => 0)
def snC (hs : Nat → Int32) (ht : Nat → UInt64) (c0 : Nat) (A : UInt64) (u : SN) : Nat → UInt64 := actA u.1 (snR hs ht c0 u) A 4 u.2.1
def secN (hs : Nat → Int32) (ht : Nat → UInt64) (c0 : Nat) (A : UInt64) (u : SN) : SN := (sq8 u.1 (snR hs ht c0 u) (snC hs ht c0 A u), snC hs ht c0 A u, u.2.2.1 + 1, snT hs ht c0 u)
def okN (hs : Nat → Int32) (ht : Nat → UInt64) (c0 : Nat) (A : UInt64) (u : SN) : Prop := (fst hs u.2.2.1 c0 0 < c0 → okH hs ht (fst hs u.2.2.1 c0 0) u.2.2.1 u.2.2.2) ∧ ft_P (snT hs ht c0 u) ∧ okQ u.1 (snR hs ht c0 u) (snC hs ht c0 A u) A
def itN (hs : Nat → Int32) (ht : Nat → UInt64) (c0 : Nat) (A : UInt64) : Nat → SN → SN
  | 0, u => u
  | n + 1, u => secN hs ht c0 A (itN hs ht c0 A n u)
abbrev wR (ad : Nat → Nat) (cA : Nat → ClassId) (Ac : UInt64) (gt lt : Int32) (ts : UInt64) (c0 : Nat) (hs : Nat → Int32) (ht : Nat → UInt64) (dc : Int32) (pa : Nat → UInt64) (ib : Nat → Int32) (u : SN) : va_W := wN ad cA u.1 u.2.2.2 Ac gt lt ts u.2.2.1 (nI c0) hs ht dc pa ib u.2.1
theorem rwA_in (T : UInt64) {k i : Nat} (h : k < i) (rv : Nat → UInt64) : rwA T i rv k = rwv T k (mk T) := if_pos h
/-- what holds in the reference's second throughout -/
def nCx (p : Program) (s : State) (m : MethodId) (meth : Method) (c : Code) (A : Nat → Prop) (dC : Nat → ClassId) (dI : Nat → Nat → Nat) (tt : Nat → Nat) (ad : Nat → Nat) (cA : Nat → ClassId) : Prop := p.tables.exec = Jvm.exec ∧ c.code = bN_second ∧ meth.sig.returnType = none ∧ (∀ x ∈ wT, x.before ([.ref (ad 0)] : List Value).toArray s = true) ∧ s.vm.findClass "MashEnzymesModel" = some m.cls ∧ c.maxLocals = 15 ∧ meth.locks = false ∧ (∀ q : Nat, s.heap.size ≤ q → A q) ∧ va_K (dC, dI) cls (tN cA) s ∧ sT tt A s s.heap
set_option maxHeartbeats 4000000 in
set_option maxRecDepth 100000 in
theorem gN_6 {p : Program} {l : Launch} {e : Env} {s : State} {m : MethodId} {below : List Frame} {meth : Method} {c : Code} {A : Nat → Prop} {dC : Nat → ClassId} {dI : Nat → Nat → Nat} {tt : Nat → Nat} {ad : Nat → Nat} {cA : Nat → ClassId} {Q : State → Prop} (b Cc Rr : Nat → UInt64) (T Ac : UInt64) (gt lt : Int32) (ts : UInt64) (nw st : Int32) (hs : Nat → Int32) (ht : Nat → UInt64) (dc : Int32) (pa : Nat → UInt64) (ib : Nat → Int32) (C : nCx p s m meth c A dC dI tt ad cA) (h6 : ok6 b Cc) (h7 : ok7 (s6 b Cc) Cc) (k : ∀ (ls : Array Slot) (H : Heap) (locs : List Loc), va_P (dC, dI) cls (wN ad cA (s7 (s6 b Cc) Cc) T Ac gt lt ts nw st hs ht dc pa ib Cc) H → va_D A (wN ad cA (s7 (s6 b Cc) Cc) T Ac gt lt ts nw st hs ht dc pa ib Cc) → va_S A s.heap H locs → lv_has ls 15 [(14, .int (nI 0)), (0, .ref (ad 0))] → W p l e ({ frames := 1, cells := 0, slots := 0, locals := 28 } : Room) s m ([.ref (ad 0)] : List Value).toArray below meth c H locs 0 0 Q (F0 m 551 ls [])) : ∀ (ls : Array Slot) (H : Heap) (locs : List Loc), va_P (dC, dI) cls (wN ad cA b T Ac gt lt ts nw st hs ht dc pa ib Cc) H → va_D A (wN ad cA b T Ac gt lt ts nw st hs ht dc pa ib Cc) → va_S A s.heap H locs → lv_has ls 15 [(10, .double (z6 b Cc)), (0, .ref (ad 0))] → W p l e ({ frames := 1, cells := 0, slots := 0, locals := 28 } : Room) s m ([.ref (ad 0)] : List Value).toArray below meth c H locs 0 0 Q (F0 m 443 ls []) := by
  obtain ⟨hx, hb, hr, hts, hown, hml, hlocks, hA, hK, hT⟩ := id C
  intro ls H locs hP hD hS hl
  refine lv_aload_n hx hb dN_second_443 rfl (lv_at hl 1 rfl) ?_
  refine va_get (D := (dC, dI)) (ci := 3) (v := .ref (ad 1)) (C := "MashEnzymesModel") (T := F_N) (N := 14) hx hb hts in_N hown hK hP 0 rfl rfl 0 (by decide) (hts _ tw_f_N_9) (fun _ h9 => h9) rfl dN_second_444 ?_
  refine lv_bipush (v := 6) hx hb dN_second_447 (by decide) ?_
  refine lv_aload_n hx hb dN_second_449 rfl (lv_at hl 1 rfl) ?_
  refine va_get (D := (dC, dI)) (ci := 3) (v := .ref (ad 1)) (C := "MashEnzymesModel") (T := F_N) (N := 14) hx hb hts in_N hown hK hP 0 rfl rfl 0 (by decide) (hts _ tw_f_N_9) (fun _ h9 => h9) rfl dN_second_450 ?_
  refine lv_bipush (v := 6) hx hb dN_second_453 (by decide) ?_
  refine ct_dald (k := 6) (v := b 6) hx hb hK hP 1 0 rfl rfl (by unfold vp_in; decide) (rfl) (rfl) dN_second_455 ?_
  refine lv_dload hx hb dN_second_456 (lv_at hl 0 rfl) ?_
  refine lv_dsub hx hb dN_second_458 (h6.2.2.1) ?_
  refine ct_dast (k := 6) (w1 := (wN ad cA (vf_upd b 6 (FP.dsub (b 6) (z6 b Cc))) T Ac gt lt ts nw st hs ht dc pa ib Cc)) hx hb hK hP hD hS 1 0 rfl rfl (by unfold vp_in; decide) (rfl) (rfl) dN_second_459 (fun H locs hP hD hS => ?_)
  refine lv_aload_n hx hb dN_second_460 rfl (lv_at hl 1 rfl) ?_
  refine va_get (D := (dC, dI)) (ci := 3) (v := .ref (ad 1)) (C := "MashEnzymesModel") (T := F_N) (N := 14) hx hb hts in_N hown hK hP 0 rfl rfl 0 (by decide) (hts _ tw_f_N_9) (fun _ h9 => h9) rfl dN_second_461 ?_
  refine lv_iconst (v := 3) hx hb dN_second_464 (by decide) ?_
  refine lv_aload_n hx hb dN_second_465 rfl (lv_at hl 1 rfl) ?_
  refine va_get (D := (dC, dI)) (ci := 3) (v := .ref (ad 1)) (C := "MashEnzymesModel") (T := F_N) (N := 14) hx hb hts in_N hown hK hP 0 rfl rfl 0 (by decide) (hts _ tw_f_N_9) (fun _ h9 => h9) rfl dN_second_466 ?_
  refine lv_iconst (v := 3) hx hb dN_second_469 (by decide) ?_
  refine ct_dald (k := 3) (v := b 3) hx hb hK hP 1 0 rfl rfl (by unfold vp_in; decide) (rfl) (rfl) dN_second_470 ?_
  refine lv_dload hx hb dN_second_471 (lv_at hl 0 rfl) ?_
  refine lv_ldc2d hx hb hown (hts _ tw_d_N_99) dN_second_473 ?_
  refine lv_dmul hx hb dN_second_476 (h6.2.2.2.1) ?_
  refine lv_dadd hx hb dN_second_477 (h6.2.2.2.2.1) ?_
  refine ct_dast (k := 3) (w1 := (wN ad cA (vf_upd (vf_upd b 6 (FP.dsub (b 6) (z6 b Cc))) 3 (FP.dadd (b 3) (FP.dmul (z6 b Cc) 4607745368753438720))) T Ac gt lt ts nw st hs ht dc pa ib Cc)) hx hb hK hP hD hS 1 0 rfl rfl (by unfold vp_in; decide) (rfl) (rfl) dN_second_478 (fun H locs hP hD hS => ?_)
  refine lv_aload_n hx hb dN_second_479 rfl (lv_at hl 1 rfl) ?_
  refine va_get (D := (dC, dI)) (ci := 3) (v := .ref (ad 1)) (C := "MashEnzymesModel") (T := F_N) (N := 14) hx hb hts in_N hown hK hP 0 rfl rfl 0 (by decide) (hts _ tw_f_N_9) (fun _ h9 => h9) rfl dN_second_480 ?_
  refine lv_iconst (v := 0) hx hb dN_second_483 (by decide) ?_
  refine lv_aload_n hx hb dN_second_484 rfl (lv_at hl 1 rfl) ?_
  refine va_get (D := (dC, dI)) (ci := 3) (v := .ref (ad 1)) (C := "MashEnzymesModel") (T := F_N) (N := 14) hx hb hts in_N hown hK hP 0 rfl rfl 0 (by decide) (hts _ tw_f_N_9) (fun _ h9 => h9) rfl dN_second_485 ?_
  refine lv_iconst (v := 0) hx hb dN_second_488 (by decide) ?_
  refine ct_dald (k := 0) (v := b 0) hx hb hK hP 1 0 rfl rfl (by unfold vp_in; decide) (rfl) (rfl) dN_second_489 ?_
  refine lv_dload hx hb dN_second_490 (lv_at hl 0 rfl) ?_
  refine lv_ldc2d hx hb hown (hts _ tw_d_N_36) dN_second_492 ?_
  refine lv_dmul hx hb dN_second_495 (h6.2.2.2.2.2.1) ?_
  refine lv_dsub hx hb dN_second_496 (h6.2.2.2.2.2.2) ?_
  refine ct_dast (k := 0) (w1 := (wN ad cA (s6 b Cc) T Ac gt lt ts nw st hs ht dc pa ib Cc)) hx hb hK hP hD hS 1 0 rfl rfl (by unfold vp_in; decide) (rfl) (rfl) dN_second_497 (fun H locs hP hD hS => ?_)
  refine lv_aload_n hx hb dN_second_498 rfl (lv_at hl 1 rfl) ?_
  refine va_get (D := (dC, dI)) (ci := 3) (v := .ref (ad 1)) (C := "MashEnzymesModel") (T := F_N) (N := 14) hx hb hts in_N hown hK hP 0 rfl rfl 0 (by decide) (hts _ tw_f_N_9) (fun _ h9 => h9) rfl dN_second_499 ?_
  refine lv_bipush (v := 8) hx hb dN_second_502 (by decide) ?_
  refine ct_dald (k := 8) (v := (s6 b Cc) 8) hx hb hK hP 1 0 rfl rfl (by unfold vp_in; decide) (rfl) (rfl) dN_second_504 ?_
  refine lv_aload_n hx hb dN_second_505 rfl (lv_at hl 1 rfl) ?_
  refine va_get (D := (dC, dI)) (ci := 3) (v := .ref (ad 6)) (C := "MashEnzymesModel") (T := F_N) (N := 14) hx hb hts in_N hown hK hP 0 rfl rfl 13 (by decide) (hts _ tw_f_N_27) (fun _ h9 => h9) rfl dN_second_506 ?_
  refine lv_iconst (v := 3) hx hb dN_second_509 (by decide) ?_
  refine ct_dald (k := 3) (v := Cc 3) hx hb hK hP 6 5 rfl rfl (by unfold vp_in; decide) (rfl) (rfl) dN_second_510 ?_
  refine lv_dmul hx hb dN_second_511 (h7.1) ?_
  refine lv_dstore (lv' := [(12, .double (FP.dmul ((s6 b Cc) 8) (Cc 3))), (10, .double (z6 b Cc)), (0, .ref (ad 0))]) hx hb dN_second_512 hl (by decide) rfl (fun ls hl => ?_)
  refine lv_aload_n hx hb dN_second_514 rfl (lv_at hl 2 rfl) ?_
  refine va_get (D := (dC, dI)) (ci := 3) (v := .ref (ad 1)) (C := "MashEnzymesModel") (T := F_N) (N := 14) hx hb hts in_N hown hK hP 0 rfl rfl 0 (by decide) (hts _ tw_f_N_9) (fun _ h9 => h9) rfl dN_second_515 ?_
  refine lv_bipush (v := 8) hx hb dN_second_518 (by decide) ?_
  refine lv_aload_n hx hb dN_second_520 rfl (lv_at hl 2 rfl) ?_
  refine va_get (D := (dC, dI)) (ci := 3) (v := .ref (ad 1)) (C := "MashEnzymesModel") (T := F_N) (N := 14) hx hb hts in_N hown hK hP 0 rfl rfl 0 (by decide) (hts _ tw_f_N_9) (fun _ h9 => h9) rfl dN_second_521 ?_
  refine lv_bipush (v := 8) hx hb dN_second_524 (by decide) ?_
  refine ct_dald (k := 8) (v := (s6 b Cc) 8) hx hb hK hP 1 0 rfl rfl (by unfold vp_in; decide) (rfl) (rfl) dN_second_526 ?_
  refine lv_dload hx hb dN_second_527 (lv_at hl 0 rfl) ?_
  refine lv_dsub hx hb dN_second_529 (h7.2.1) ?_
  refine ct_dast (k := 8) (w1 := (wN ad cA (vf_upd (s6 b Cc) 8 (FP.dsub ((s6 b Cc) 8) (FP.dmul ((s6 b Cc) 8) (Cc 3)))) T Ac gt lt ts nw st hs ht dc pa ib Cc)) hx hb hK hP hD hS 1 0 rfl rfl (by unfold vp_in; decide) (rfl) (rfl) dN_second_530 (fun H locs hP hD hS => ?_)
  refine lv_aload_n hx hb dN_second_531 rfl (lv_at hl 2 rfl) ?_
  refine va_get (D := (dC, dI)) (ci := 3) (v := .ref (ad 1)) (C := "MashEnzymesModel") (T := F_N) (N := 14) hx hb hts in_N hown hK hP 0 rfl rfl 0 (by decide) (hts _ tw_f_N_9) (fun _ h9 => h9) rfl dN_second_532 ?_
  refine lv_bipush (v := 7) hx hb dN_second_535 (by decide) ?_
  refine lv_aload_n hx hb dN_second_537 rfl (lv_at hl 2 rfl) ?_
  refine va_get (D := (dC, dI)) (ci := 3) (v := .ref (ad 1)) (C := "MashEnzymesModel") (T := F_N) (N := 14) hx hb hts in_N hown hK hP 0 rfl rfl 0 (by decide) (hts _ tw_f_N_9) (fun _ h9 => h9) rfl dN_second_538 ?_
  refine lv_bipush (v := 7) hx hb dN_second_541 (by decide) ?_
  refine ct_dald (k := 7) (v := (s6 b Cc) 7) hx hb hK hP 1 0 rfl rfl (by unfold vp_in; decide) (rfl) (rfl) dN_second_543 ?_
  refine lv_dload hx hb dN_second_544 (lv_at hl 0 rfl) ?_
  refine lv_dadd hx hb dN_second_546 (h7.2.2) ?_
  refine ct_dast (k := 7) (w1 := (wN ad cA (s7 (s6 b Cc) Cc) T Ac gt lt ts nw st hs ht dc pa ib Cc)) hx hb hK hP hD hS 1 0 rfl rfl (by unfold vp_in; decide) (rfl) (rfl) dN_second_547 (fun H locs hP hD hS => ?_)
  refine lv_iconst (v := 0) hx hb dN_second_548 (by decide) ?_
  refine ct_topi (y := nI 0) (rfl) ?_
  refine lv_istore (lv' := [(14, .int (nI 0)), (12, .double (FP.dmul ((s6 b Cc) 8) (Cc 3))), (10, .double (z6 b Cc)), (0, .ref (ad 0))]) hx hb dN_second_549 hl (by decide) rfl (fun ls hl => ?_)
  exact k ls _ _ hP hD hS (lv_sub hl [0, 3] rfl)
set_option maxHeartbeats 4000000 in
set_option maxRecDepth 100000 in
theorem gN_5 {p : Program} {l : Launch} {e : Env} {s : State} {m : MethodId} {below : List Frame} {meth : Method} {c : Code} {A : Nat → Prop} {dC : Nat → ClassId} {dI : Nat → Nat → Nat} {tt : Nat → Nat} {ad : Nat → Nat} {cA : Nat → ClassId} {Q : State → Prop} (b Cc Rr : Nat → UInt64) (T Ac : UInt64) (gt lt : Int32) (ts : UInt64) (nw st : Int32) (hs : Nat → Int32) (ht : Nat → UInt64) (dc : Int32) (pa : Nat → UInt64) (ib : Nat → Int32) (C : nCx p s m meth c A dC dI tt ad cA) (h5 : ok5 b Cc) (h6 : ok6 (s5 b Cc) Cc) (k : ∀ (ls : Array Slot) (H : Heap) (locs : List Loc), va_P (dC, dI) cls (wN ad cA (s5 b Cc) T Ac gt lt ts nw st hs ht dc pa ib Cc) H → va_D A (wN ad cA (s5 b Cc) T Ac gt lt ts nw st hs ht dc pa ib Cc) → va_S A s.heap H locs → lv_has ls 15 [(10, .double (z6 (s5 b Cc) Cc)), (0, .ref (ad 0))] → W p l e ({ frames := 1, cells := 0, slots := 0, locals := 28 } : Room) s m ([.ref (ad 0)] : List Value).toArray below meth c H locs 0 0 Q (F0 m 443 ls [])) : ∀ (ls : Array Slot) (H : Heap) (locs : List Loc), va_P (dC, dI) cls (wN ad cA b T Ac gt lt ts nw st hs ht dc pa ib Cc) H → va_D A (wN ad cA b T Ac gt lt ts nw st hs ht dc pa ib Cc) → va_S A s.heap H locs → lv_has ls 15 [(8, .double (y5 b Cc)), (0, .ref (ad 0))] → W p l e ({ frames := 1, cells := 0, slots := 0, locals := 28 } : Room) s m ([.ref (ad 0)] : List Value).toArray below meth c H locs 0 0 Q (F0 m 339 ls []) := by
  obtain ⟨hx, hb, hr, hts, hown, hml, hlocks, hA, hK, hT⟩ := id C
  intro ls H locs hP hD hS hl
  refine lv_aload_n hx hb dN_second_339 rfl (lv_at hl 1 rfl) ?_
  refine va_get (D := (dC, dI)) (ci := 3) (v := .ref (ad 1)) (C := "MashEnzymesModel") (T := F_N) (N := 14) hx hb hts in_N hown hK hP 0 rfl rfl 0 (by decide) (hts _ tw_f_N_9) (fun _ h9 => h9) rfl dN_second_340 ?_
  refine lv_bipush (v := 6) hx hb dN_second_343 (by decide) ?_
  refine lv_aload_n hx hb dN_second_345 rfl (lv_at hl 1 rfl) ?_
  refine va_get (D := (dC, dI)) (ci := 3) (v := .ref (ad 1)) (C := "MashEnzymesModel") (T := F_N) (N := 14) hx hb hts in_N hown hK hP 0 rfl rfl 0 (by decide) (hts _ tw_f_N_9) (fun _ h9 => h9) rfl dN_second_346 ?_
  refine lv_bipush (v := 6) hx hb dN_second_349 (by decide) ?_
  refine ct_dald (k := 6) (v := b 6) hx hb hK hP 1 0 rfl rfl (by unfold vp_in; decide) (rfl) (rfl) dN_second_351 ?_
  refine lv_dload hx hb dN_second_352 (lv_at hl 0 rfl) ?_
  refine lv_dsub hx hb dN_second_354 (h5.2.2.1) ?_
  refine ct_dast (k := 6) (w1 := (wN ad cA (vf_upd b 6 (FP.dsub (b 6) (y5 b Cc))) T Ac gt lt ts nw st hs ht dc pa ib Cc)) hx hb hK hP hD hS 1 0 rfl rfl (by unfold vp_in; decide) (rfl) (rfl) dN_second_355 (fun H locs hP hD hS => ?_)
  refine lv_aload_n hx hb dN_second_356 rfl (lv_at hl 1 rfl) ?_
  refine va_get (D := (dC, dI)) (ci := 3) (v := .ref (ad 1)) (C := "MashEnzymesModel") (T := F_N) (N := 14) hx hb hts in_N hown hK hP 0 rfl rfl 0 (by decide) (hts _ tw_f_N_9) (fun _ h9 => h9) rfl dN_second_357 ?_
  refine lv_iconst (v := 4) hx hb dN_second_360 (by decide) ?_
  refine lv_aload_n hx hb dN_second_361 rfl (lv_at hl 1 rfl) ?_
  refine va_get (D := (dC, dI)) (ci := 3) (v := .ref (ad 1)) (C := "MashEnzymesModel") (T := F_N) (N := 14) hx hb hts in_N hown hK hP 0 rfl rfl 0 (by decide) (hts _ tw_f_N_9) (fun _ h9 => h9) rfl dN_second_362 ?_
  refine lv_iconst (v := 4) hx hb dN_second_365 (by decide) ?_
  refine ct_dald (k := 4) (v := b 4) hx hb hK hP 1 0 rfl rfl (by unfold vp_in; decide) (rfl) (rfl) dN_second_366 ?_
  refine lv_dload hx hb dN_second_367 (lv_at hl 0 rfl) ?_
  refine lv_ldc2d hx hb hown (hts _ tw_d_N_95) dN_second_369 ?_
  refine lv_dmul hx hb dN_second_372 (h5.2.2.2.1) ?_
  refine lv_dadd hx hb dN_second_373 (h5.2.2.2.2.1) ?_
  refine ct_dast (k := 4) (w1 := (wN ad cA (vf_upd (vf_upd b 6 (FP.dsub (b 6) (y5 b Cc))) 4 (FP.dadd (b 4) (FP.dmul (y5 b Cc) 4607463893776728064))) T Ac gt lt ts nw st hs ht dc pa ib Cc)) hx hb hK hP hD hS 1 0 rfl rfl (by unfold vp_in; decide) (rfl) (rfl) dN_second_374 (fun H locs hP hD hS => ?_)
  refine lv_aload_n hx hb dN_second_375 rfl (lv_at hl 1 rfl) ?_
  refine va_get (D := (dC, dI)) (ci := 3) (v := .ref (ad 1)) (C := "MashEnzymesModel") (T := F_N) (N := 14) hx hb hts in_N hown hK hP 0 rfl rfl 0 (by decide) (hts _ tw_f_N_9) (fun _ h9 => h9) rfl dN_second_376 ?_
  refine lv_iconst (v := 0) hx hb dN_second_379 (by decide) ?_
  refine lv_aload_n hx hb dN_second_380 rfl (lv_at hl 1 rfl) ?_
  refine va_get (D := (dC, dI)) (ci := 3) (v := .ref (ad 1)) (C := "MashEnzymesModel") (T := F_N) (N := 14) hx hb hts in_N hown hK hP 0 rfl rfl 0 (by decide) (hts _ tw_f_N_9) (fun _ h9 => h9) rfl dN_second_381 ?_
  refine lv_iconst (v := 0) hx hb dN_second_384 (by decide) ?_
  refine ct_dald (k := 0) (v := b 0) hx hb hK hP 1 0 rfl rfl (by unfold vp_in; decide) (rfl) (rfl) dN_second_385 ?_
  refine lv_dload hx hb dN_second_386 (lv_at hl 0 rfl) ?_
  refine lv_ldc2d hx hb hown (hts _ tw_d_N_38) dN_second_388 ?_
  refine lv_dmul hx hb dN_second_391 (h5.2.2.2.2.2.1) ?_
  refine lv_dsub hx hb dN_second_392 (h5.2.2.2.2.2.2) ?_
  refine ct_dast (k := 0) (w1 := (wN ad cA (s5 b Cc) T Ac gt lt ts nw st hs ht dc pa ib Cc)) hx hb hK hP hD hS 1 0 rfl rfl (by unfold vp_in; decide) (rfl) (rfl) dN_second_393 (fun H locs hP hD hS => ?_)
  refine lv_aload_n hx hb dN_second_394 rfl (lv_at hl 1 rfl) ?_
  refine va_get (D := (dC, dI)) (ci := 3) (v := .ref (ad 1)) (C := "MashEnzymesModel") (T := F_N) (N := 14) hx hb hts in_N hown hK hP 0 rfl rfl 0 (by decide) (hts _ tw_f_N_9) (fun _ h9 => h9) rfl dN_second_395 ?_
  refine lv_bipush (v := 6) hx hb dN_second_398 (by decide) ?_
  refine ct_dald (k := 6) (v := (s5 b Cc) 6) hx hb hK hP 1 0 rfl rfl (by unfold vp_in; decide) (rfl) (rfl) dN_second_400 ?_
  refine lv_aload_n hx hb dN_second_401 rfl (lv_at hl 1 rfl) ?_
  refine va_get (D := (dC, dI)) (ci := 3) (v := .ref (ad 6)) (C := "MashEnzymesModel") (T := F_N) (N := 14) hx hb hts in_N hown hK hP 0 rfl rfl 13 (by decide) (hts _ tw_f_N_27) (fun _ h9 => h9) rfl dN_second_402 ?_
  refine lv_iconst (v := 2) hx hb dN_second_405 (by decide) ?_
  refine ct_dald (k := 2) (v := Cc 2) hx hb hK hP 6 5 rfl rfl (by unfold vp_in; decide) (rfl) (rfl) dN_second_406 ?_
  refine lv_dmul hx hb dN_second_407 (h6.1) ?_
  refine lv_dstore (lv' := [(10, .double (FP.dmul ((s5 b Cc) 6) (Cc 2))), (8, .double (y5 b Cc)), (0, .ref (ad 0))]) hx hb dN_second_408 hl (by decide) rfl (fun ls hl => ?_)
  refine lv_aload_n hx hb dN_second_410 rfl (lv_at hl 2 rfl) ?_
  refine va_get (D := (dC, dI)) (ci := 3) (v := .ref (ad 1)) (C := "MashEnzymesModel") (T := F_N) (N := 14) hx hb hts in_N hown hK hP 0 rfl rfl 0 (by decide) (hts _ tw_f_N_9) (fun _ h9 => h9) rfl dN_second_411 ?_
  refine lv_iconst (v := 0) hx hb dN_second_414 (by decide) ?_
  refine ct_dald (k := 0) (v := (s5 b Cc) 0) hx hb hK hP 1 0 rfl rfl (by unfold vp_in; decide) (rfl) (rfl) dN_second_415 ?_
  refine lv_ldc2d hx hb hown (hts _ tw_d_N_97) dN_second_416 ?_
  refine lv_dmul hx hb dN_second_419 (h6.2.1) ?_
  refine lv_dload hx hb dN_second_420 (lv_at hl 0 rfl) ?_
  refine lv_dcmp hx hb dN_second_422 ?_
  refine lv_if_ge (tgt := 439) hx hb dN_second_423 (by decide) (fun c_1 => ?_) (fun c_1 => ?_)
  · refine lv_dload hx hb dN_second_439 (lv_at hl 0 rfl) ?_
    refine ct_topd (y := z6 (s5 b Cc) Cc) (by unfold z6 lesD; rw [if_neg ((cv_g_ge _).mp c_1)]) ?_
    refine lv_dstore (lv' := [(10, .double (z6 (s5 b Cc) Cc)), (8, .double (y5 b Cc)), (0, .ref (ad 0))]) hx hb dN_second_441 hl (by decide) rfl (fun ls hl => ?_)
    exact k ls _ _ hP hD hS (lv_sub hl [0, 2] rfl)
  · refine lv_aload_n hx hb dN_second_426 rfl (lv_at hl 2 rfl) ?_
    refine va_get (D := (dC, dI)) (ci := 3) (v := .ref (ad 1)) (C := "MashEnzymesModel") (T := F_N) (N := 14) hx hb hts in_N hown hK hP 0 rfl rfl 0 (by decide) (hts _ tw_f_N_9) (fun _ h9 => h9) rfl dN_second_427 ?_
    refine lv_iconst (v := 0) hx hb dN_second_430 (by decide) ?_
    refine ct_dald (k := 0) (v := (s5 b Cc) 0) hx hb hK hP 1 0 rfl rfl (by unfold vp_in; decide) (rfl) (rfl) dN_second_431 ?_
    refine lv_ldc2d hx hb hown (hts _ tw_d_N_97) dN_second_432 ?_
    refine lv_dmul hx hb dN_second_435 (h6.2.1) ?_
    refine lv_goto (tgt := 441) hx hb dN_second_436 (by decide) ?_
    refine ct_topd (y := z6 (s5 b Cc) Cc) (by unfold z6 lesD; rw [if_pos (Classical.not_not.mp fun h => c_1 ((cv_g_ge _).mpr h))]) ?_
    refine lv_dstore (lv' := [(10, .double (z6 (s5 b Cc) Cc)), (8, .double (y5 b Cc)), (0, .ref (ad 0))]) hx hb dN_second_441 hl (by decide) rfl (fun ls hl => ?_)
    exact k ls _ _ hP hD hS (lv_sub hl [0, 2] rfl)
set_option maxHeartbeats 4000000 in
set_option maxRecDepth 100000 in
theorem gN_4 {p : Program} {l : Launch} {e : Env} {s : State} {m : MethodId} {below : List Frame} {meth : Method} {c : Code} {A : Nat → Prop} {dC : Nat → ClassId} {dI : Nat → Nat → Nat} {tt : Nat → Nat} {ad : Nat → Nat} {cA : Nat → ClassId} {Q : State → Prop} (b Cc Rr : Nat → UInt64) (T Ac : UInt64) (gt lt : Int32) (ts : UInt64) (nw st : Int32) (hs : Nat → Int32) (ht : Nat → UInt64) (dc : Int32) (pa : Nat → UInt64) (ib : Nat → Int32) (C : nCx p s m meth c A dC dI tt ad cA) (h4 : ok4 b Cc) (h5 : ok5 (s4 b Cc) Cc) (k : ∀ (ls : Array Slot) (H : Heap) (locs : List Loc), va_P (dC, dI) cls (wN ad cA (s4 b Cc) T Ac gt lt ts nw st hs ht dc pa ib Cc) H → va_D A (wN ad cA (s4 b Cc) T Ac gt lt ts nw st hs ht dc pa ib Cc) → va_S A s.heap H locs → lv_has ls 15 [(8, .double (y5 (s4 b Cc) Cc)), (0, .ref (ad 0))] → W p l e ({ frames := 1, cells := 0, slots := 0, locals := 28 } : Room) s m ([.ref (ad 0)] : List Value).toArray below meth c H locs 0 0 Q (F0 m 339 ls [])) : ∀ (ls : Array Slot) (H : Heap) (locs : List Loc), va_P (dC, dI) cls (wN ad cA b T Ac gt lt ts nw st hs ht dc pa ib Cc) H → va_D A (wN ad cA b T Ac gt lt ts nw st hs ht dc pa ib Cc) → va_S A s.heap H locs → lv_has ls 15 [(0, .ref (ad 0))] → W p l e ({ frames := 1, cells := 0, slots := 0, locals := 28 } : Room) s m ([.ref (ad 0)] : List Value).toArray below meth c H locs 0 0 Q (F0 m 220 ls []) := by
  obtain ⟨hx, hb, hr, hts, hown, hml, hlocks, hA, hK, hT⟩ := id C
  intro ls H locs hP hD hS hl
  refine lv_aload_n hx hb dN_second_220 rfl (lv_at hl 0 rfl) ?_
  refine va_get (D := (dC, dI)) (ci := 3) (v := .ref (ad 1)) (C := "MashEnzymesModel") (T := F_N) (N := 14) hx hb hts in_N hown hK hP 0 rfl rfl 0 (by decide) (hts _ tw_f_N_9) (fun _ h9 => h9) rfl dN_second_221 ?_
  refine lv_iconst (v := 2) hx hb dN_second_224 (by decide) ?_
  refine ct_dald (k := 2) (v := b 2) hx hb hK hP 1 0 rfl rfl (by unfold vp_in; decide) (rfl) (rfl) dN_second_225 ?_
  refine lv_aload_n hx hb dN_second_226 rfl (lv_at hl 0 rfl) ?_
  refine va_get (D := (dC, dI)) (ci := 3) (v := .ref (ad 6)) (C := "MashEnzymesModel") (T := F_N) (N := 14) hx hb hts in_N hown hK hP 0 rfl rfl 13 (by decide) (hts _ tw_f_N_27) (fun _ h9 => h9) rfl dN_second_227 ?_
  refine lv_iconst (v := 0) hx hb dN_second_230 (by decide) ?_
  refine ct_dald (k := 0) (v := Cc 0) hx hb hK hP 6 5 rfl rfl (by unfold vp_in; decide) (rfl) (rfl) dN_second_231 ?_
  refine lv_dmul hx hb dN_second_232 (h4.1) ?_
  refine lv_dstore (lv' := [(6, .double (FP.dmul (b 2) (Cc 0))), (0, .ref (ad 0))]) hx hb dN_second_233 hl (by decide) rfl (fun ls hl => ?_)
  refine lv_aload_n hx hb dN_second_235 rfl (lv_at hl 1 rfl) ?_
  refine va_get (D := (dC, dI)) (ci := 3) (v := .ref (ad 1)) (C := "MashEnzymesModel") (T := F_N) (N := 14) hx hb hts in_N hown hK hP 0 rfl rfl 0 (by decide) (hts _ tw_f_N_9) (fun _ h9 => h9) rfl dN_second_236 ?_
  refine lv_iconst (v := 2) hx hb dN_second_239 (by decide) ?_
  refine lv_aload_n hx hb dN_second_240 rfl (lv_at hl 1 rfl) ?_
  refine va_get (D := (dC, dI)) (ci := 3) (v := .ref (ad 1)) (C := "MashEnzymesModel") (T := F_N) (N := 14) hx hb hts in_N hown hK hP 0 rfl rfl 0 (by decide) (hts _ tw_f_N_9) (fun _ h9 => h9) rfl dN_second_241 ?_
  refine lv_iconst (v := 2) hx hb dN_second_244 (by decide) ?_
  refine ct_dald (k := 2) (v := b 2) hx hb hK hP 1 0 rfl rfl (by unfold vp_in; decide) (rfl) (rfl) dN_second_245 ?_
  refine lv_dload hx hb dN_second_246 (lv_at hl 0 rfl) ?_
  refine lv_dsub hx hb dN_second_248 (h4.2.1) ?_
  refine ct_dast (k := 2) (w1 := (wN ad cA (vf_upd b 2 (FP.dsub (b 2) (FP.dmul (b 2) (Cc 0)))) T Ac gt lt ts nw st hs ht dc pa ib Cc)) hx hb hK hP hD hS 1 0 rfl rfl (by unfold vp_in; decide) (rfl) (rfl) dN_second_249 (fun H locs hP hD hS => ?_)
  refine lv_aload_n hx hb dN_second_250 rfl (lv_at hl 1 rfl) ?_
  refine va_get (D := (dC, dI)) (ci := 3) (v := .ref (ad 1)) (C := "MashEnzymesModel") (T := F_N) (N := 14) hx hb hts in_N hown hK hP 0 rfl rfl 0 (by decide) (hts _ tw_f_N_9) (fun _ h9 => h9) rfl dN_second_251 ?_
  refine lv_bipush (v := 6) hx hb dN_second_254 (by decide) ?_
  refine lv_aload_n hx hb dN_second_256 rfl (lv_at hl 1 rfl) ?_
  refine va_get (D := (dC, dI)) (ci := 3) (v := .ref (ad 1)) (C := "MashEnzymesModel") (T := F_N) (N := 14) hx hb hts in_N hown hK hP 0 rfl rfl 0 (by decide) (hts _ tw_f_N_9) (fun _ h9 => h9) rfl dN_second_257 ?_
  refine lv_bipush (v := 6) hx hb dN_second_260 (by decide) ?_
  refine ct_dald (k := 6) (v := b 6) hx hb hK hP 1 0 rfl rfl (by unfold vp_in; decide) (rfl) (rfl) dN_second_262 ?_
  refine lv_dload hx hb dN_second_263 (lv_at hl 0 rfl) ?_
  refine lv_ldc2d hx hb hown (hts _ tw_d_N_42) dN_second_265 ?_
  refine lv_dmul hx hb dN_second_268 (h4.2.2.1) ?_
  refine lv_dadd hx hb dN_second_269 (h4.2.2.2.1) ?_
  refine ct_dast (k := 6) (w1 := (wN ad cA (vf_upd (vf_upd b 2 (FP.dsub (b 2) (FP.dmul (b 2) (Cc 0)))) 6 (FP.dadd (b 6) (FP.dmul (FP.dmul (b 2) (Cc 0)) 4604930618986332160))) T Ac gt lt ts nw st hs ht dc pa ib Cc)) hx hb hK hP hD hS 1 0 rfl rfl (by unfold vp_in; decide) (rfl) (rfl) dN_second_270 (fun H locs hP hD hS => ?_)
  refine lv_aload_n hx hb dN_second_271 rfl (lv_at hl 1 rfl) ?_
  refine va_get (D := (dC, dI)) (ci := 3) (v := .ref (ad 1)) (C := "MashEnzymesModel") (T := F_N) (N := 14) hx hb hts in_N hown hK hP 0 rfl rfl 0 (by decide) (hts _ tw_f_N_9) (fun _ h9 => h9) rfl dN_second_272 ?_
  refine lv_iconst (v := 5) hx hb dN_second_275 (by decide) ?_
  refine lv_aload_n hx hb dN_second_276 rfl (lv_at hl 1 rfl) ?_
  refine va_get (D := (dC, dI)) (ci := 3) (v := .ref (ad 1)) (C := "MashEnzymesModel") (T := F_N) (N := 14) hx hb hts in_N hown hK hP 0 rfl rfl 0 (by decide) (hts _ tw_f_N_9) (fun _ h9 => h9) rfl dN_second_277 ?_
  refine lv_iconst (v := 5) hx hb dN_second_280 (by decide) ?_
  refine ct_dald (k := 5) (v := b 5) hx hb hK hP 1 0 rfl rfl (by unfold vp_in; decide) (rfl) (rfl) dN_second_281 ?_
  refine lv_dload hx hb dN_second_282 (lv_at hl 0 rfl) ?_
  refine lv_ldc2d hx hb hown (hts _ tw_d_N_44) dN_second_284 ?_
  refine lv_dmul hx hb dN_second_287 (h4.2.2.2.2.1) ?_
  refine lv_dadd hx hb dN_second_288 (h4.2.2.2.2.2) ?_
  refine ct_dast (k := 5) (w1 := (wN ad cA (s4 b Cc) T Ac gt lt ts nw st hs ht dc pa ib Cc)) hx hb hK hP hD hS 1 0 rfl rfl (by unfold vp_in; decide) (rfl) (rfl) dN_second_289 (fun H locs hP hD hS => ?_)
  refine lv_aload_n hx hb dN_second_290 rfl (lv_at hl 1 rfl) ?_
  refine va_get (D := (dC, dI)) (ci := 3) (v := .ref (ad 1)) (C := "MashEnzymesModel") (T := F_N) (N := 14) hx hb hts in_N hown hK hP 0 rfl rfl 0 (by decide) (hts _ tw_f_N_9) (fun _ h9 => h9) rfl dN_second_291 ?_
  refine lv_bipush (v := 6) hx hb dN_second_294 (by decide) ?_
  refine ct_dald (k := 6) (v := (s4 b Cc) 6) hx hb hK hP 1 0 rfl rfl (by unfold vp_in; decide) (rfl) (rfl) dN_second_296 ?_
  refine lv_aload_n hx hb dN_second_297 rfl (lv_at hl 1 rfl) ?_
  refine va_get (D := (dC, dI)) (ci := 3) (v := .ref (ad 6)) (C := "MashEnzymesModel") (T := F_N) (N := 14) hx hb hts in_N hown hK hP 0 rfl rfl 13 (by decide) (hts _ tw_f_N_27) (fun _ h9 => h9) rfl dN_second_298 ?_
  refine lv_iconst (v := 1) hx hb dN_second_301 (by decide) ?_
  refine ct_dald (k := 1) (v := Cc 1) hx hb hK hP 6 5 rfl rfl (by unfold vp_in; decide) (rfl) (rfl) dN_second_302 ?_
  refine lv_dmul hx hb dN_second_303 (h5.1) ?_
  refine lv_dstore (lv' := [(8, .double (FP.dmul ((s4 b Cc) 6) (Cc 1))), (6, .double (FP.dmul (b 2) (Cc 0))), (0, .ref (ad 0))]) hx hb dN_second_304 hl (by decide) rfl (fun ls hl => ?_)
  refine lv_aload_n hx hb dN_second_306 rfl (lv_at hl 2 rfl) ?_
  refine va_get (D := (dC, dI)) (ci := 3) (v := .ref (ad 1)) (C := "MashEnzymesModel") (T := F_N) (N := 14) hx hb hts in_N hown hK hP 0 rfl rfl 0 (by decide) (hts _ tw_f_N_9) (fun _ h9 => h9) rfl dN_second_307 ?_
  refine lv_iconst (v := 0) hx hb dN_second_310 (by decide) ?_
  refine ct_dald (k := 0) (v := (s4 b Cc) 0) hx hb hK hP 1 0 rfl rfl (by unfold vp_in; decide) (rfl) (rfl) dN_second_311 ?_
  refine lv_ldc2d hx hb hown (hts _ tw_d_N_60) dN_second_312 ?_
  refine lv_dmul hx hb dN_second_315 (h5.2.1) ?_
  refine lv_dload hx hb dN_second_316 (lv_at hl 0 rfl) ?_
  refine lv_dcmp hx hb dN_second_318 ?_
  refine lv_if_ge (tgt := 335) hx hb dN_second_319 (by decide) (fun c_1 => ?_) (fun c_1 => ?_)
  · refine lv_dload hx hb dN_second_335 (lv_at hl 0 rfl) ?_
    refine ct_topd (y := y5 (s4 b Cc) Cc) (by unfold y5 lesD; rw [if_neg ((cv_g_ge _).mp c_1)]) ?_
    refine lv_dstore (lv' := [(8, .double (y5 (s4 b Cc) Cc)), (6, .double (FP.dmul (b 2) (Cc 0))), (0, .ref (ad 0))]) hx hb dN_second_337 hl (by decide) rfl (fun ls hl => ?_)
    exact k ls _ _ hP hD hS (lv_sub hl [0, 2] rfl)
  · refine lv_aload_n hx hb dN_second_322 rfl (lv_at hl 2 rfl) ?_
    refine va_get (D := (dC, dI)) (ci := 3) (v := .ref (ad 1)) (C := "MashEnzymesModel") (T := F_N) (N := 14) hx hb hts in_N hown hK hP 0 rfl rfl 0 (by decide) (hts _ tw_f_N_9) (fun _ h9 => h9) rfl dN_second_323 ?_
    refine lv_iconst (v := 0) hx hb dN_second_326 (by decide) ?_
    refine ct_dald (k := 0) (v := (s4 b Cc) 0) hx hb hK hP 1 0 rfl rfl (by unfold vp_in; decide) (rfl) (rfl) dN_second_327 ?_
    refine lv_ldc2d hx hb hown (hts _ tw_d_N_60) dN_second_328 ?_
    refine lv_dmul hx hb dN_second_331 (h5.2.1) ?_
    refine lv_goto (tgt := 337) hx hb dN_second_332 (by decide) ?_
    refine ct_topd (y := y5 (s4 b Cc) Cc) (by unfold y5 lesD; rw [if_pos (Classical.not_not.mp fun h => c_1 ((cv_g_ge _).mpr h))]) ?_
    refine lv_dstore (lv' := [(8, .double (y5 (s4 b Cc) Cc)), (6, .double (FP.dmul (b 2) (Cc 0))), (0, .ref (ad 0))]) hx hb dN_second_337 hl (by decide) rfl (fun ls hl => ?_)
    exact k ls _ _ hP hD hS (lv_sub hl [0, 2] rfl)
set_option maxHeartbeats 4000000 in
set_option maxRecDepth 100000 in
theorem gN_3 {p : Program} {l : Launch} {e : Env} {s : State} {m : MethodId} {below : List Frame} {meth : Method} {c : Code} {A : Nat → Prop} {dC : Nat → ClassId} {dI : Nat → Nat → Nat} {tt : Nat → Nat} {ad : Nat → Nat} {cA : Nat → ClassId} {Q : State → Prop} (b Cc Rr : Nat → UInt64) (T Ac : UInt64) (gt lt : Int32) (ts : UInt64) (nw st : Int32) (hs : Nat → Int32) (ht : Nat → UInt64) (dc : Int32) (pa : Nat → UInt64) (ib : Nat → Int32) (C : nCx p s m meth c A dC dI tt ad cA) (h3 : ok3 b Rr) (hT9 : ft_P T) (hR8 : rwv T (rmp 4) (mk T) = Rr 8) (k : ∀ (ls : Array Slot) (H : Heap) (locs : List Loc), va_P (dC, dI) cls (wN ad cA (s3 b Rr) T Ac gt lt ts nw st hs ht dc pa ib Cc) H → va_D A (wN ad cA (s3 b Rr) T Ac gt lt ts nw st hs ht dc pa ib Cc) → va_S A s.heap H locs → lv_has ls 15 [(0, .ref (ad 0))] → W p l e ({ frames := 1, cells := 0, slots := 0, locals := 28 } : Room) s m ([.ref (ad 0)] : List Value).toArray below meth c H locs 0 0 Q (F0 m 220 ls [])) : ∀ (ls : Array Slot) (H : Heap) (locs : List Loc), va_P (dC, dI) cls (wN ad cA b T Ac gt lt ts nw st hs ht dc pa ib Cc) H → va_D A (wN ad cA b T Ac gt lt ts nw st hs ht dc pa ib Cc) → va_S A s.heap H locs → lv_has ls 15 [(0, .ref (ad 0))] → W p l e ({ frames := 1, cells := 0, slots := 0, locals := 28 } : Room) s m ([.ref (ad 0)] : List Value).toArray below meth c H locs 0 0 Q (F0 m 176 ls []) := by
  obtain ⟨hx, hb, hr, hts, hown, hml, hlocks, hA, hK, hT⟩ := id C
  intro ls H locs hP hD hS hl
  refine lv_aload_n hx hb dN_second_176 rfl (lv_at hl 0 rfl) ?_
  refine va_get (D := (dC, dI)) (ci := 3) (v := .ref (ad 1)) (C := "MashEnzymesModel") (T := F_N) (N := 14) hx hb hts in_N hown hK hP 0 rfl rfl 0 (by decide) (hts _ tw_f_N_9) (fun _ h9 => h9) rfl dN_second_177 ?_
  refine lv_iconst (v := 1) hx hb dN_second_180 (by decide) ?_
  refine ct_dald (k := 1) (v := b 1) hx hb hK hP 1 0 rfl rfl (by unfold vp_in; decide) (rfl) (rfl) dN_second_181 ?_
  refine lv_aload_n hx hb dN_second_182 rfl (lv_at hl 0 rfl) ?_
  refine lv_iconst (v := 4) hx hb dN_second_183 (by decide) ?_
  refine ct_cvd (As := [.int 4]) (rest := [.double (b 1)]) (wr := []) (w1 := (wN ad cA b T Ac gt lt ts nw st hs ht dc pa ib Cc)) ⟨hx, hb, hml, hown, hts⟩ (cN_row l dC dI tt _ ad cA b T Ac gt lt ts nw st hs ht dc pa ib Cc 4 (by decide) hT9) (gT_V tw_m_N_91 tw_i_yN_row tw_s_yN_row tw_I_N tw_c_yN_row) ⟨rfl, by decide +kernel, by decide +kernel, (by decide +kernel : (parseMethodDescriptor yN_row.desc).map (fun d => d.parameters.length) = some 1)⟩ ⟨by decide, by decide⟩ (ci := 3) rfl rfl rfl hP hD hK hS hA hT [0, 1, 2, 3, 4, 5, 6] [] [0, 1, 2, 3, 4, 5] (by decide) rfl rfl (by decide) (by decide) rfl hl.1 rfl (Nat.le_of_ble_eq_true rfl) dN_second_184 ⟨by decide, by decide⟩ (fun H locs hP hD hS => ?_)
  have hP : va_P (dC, dI) cls (wN ad cA b T Ac gt lt ts nw st hs ht dc pa ib Cc) H := hP
  have hD : va_D A (wN ad cA b T Ac gt lt ts nw st hs ht dc pa ib Cc) := hD
  refine ct_topd (y := Rr 8) hR8 ?_
  refine lv_dmul hx hb dN_second_187 (h3.1) ?_
  refine lv_dstore (lv' := [(4, .double (FP.dmul (b 1) (Rr 8))), (0, .ref (ad 0))]) hx hb dN_second_188 hl (by decide) rfl (fun ls hl => ?_)
  refine lv_aload_n hx hb dN_second_190 rfl (lv_at hl 1 rfl) ?_
  refine va_get (D := (dC, dI)) (ci := 3) (v := .ref (ad 1)) (C := "MashEnzymesModel") (T := F_N) (N := 14) hx hb hts in_N hown hK hP 0 rfl rfl 0 (by decide) (hts _ tw_f_N_9) (fun _ h9 => h9) rfl dN_second_191 ?_
  refine lv_iconst (v := 1) hx hb dN_second_194 (by decide) ?_
  refine lv_aload_n hx hb dN_second_195 rfl (lv_at hl 1 rfl) ?_
  refine va_get (D := (dC, dI)) (ci := 3) (v := .ref (ad 1)) (C := "MashEnzymesModel") (T := F_N) (N := 14) hx hb hts in_N hown hK hP 0 rfl rfl 0 (by decide) (hts _ tw_f_N_9) (fun _ h9 => h9) rfl dN_second_196 ?_
  refine lv_iconst (v := 1) hx hb dN_second_199 (by decide) ?_
  refine ct_dald (k := 1) (v := b 1) hx hb hK hP 1 0 rfl rfl (by unfold vp_in; decide) (rfl) (rfl) dN_second_200 ?_
  refine lv_dload hx hb dN_second_201 (lv_at hl 0 rfl) ?_
  refine lv_dsub hx hb dN_second_203 (h3.2.1) ?_
  refine ct_dast (k := 1) (w1 := (wN ad cA (vf_upd b 1 (FP.dsub (b 1) (FP.dmul (b 1) (Rr 8)))) T Ac gt lt ts nw st hs ht dc pa ib Cc)) hx hb hK hP hD hS 1 0 rfl rfl (by unfold vp_in; decide) (rfl) (rfl) dN_second_204 (fun H locs hP hD hS => ?_)
  refine lv_aload_n hx hb dN_second_205 rfl (lv_at hl 1 rfl) ?_
  refine va_get (D := (dC, dI)) (ci := 3) (v := .ref (ad 1)) (C := "MashEnzymesModel") (T := F_N) (N := 14) hx hb hts in_N hown hK hP 0 rfl rfl 0 (by decide) (hts _ tw_f_N_9) (fun _ h9 => h9) rfl dN_second_206 ?_
  refine lv_iconst (v := 2) hx hb dN_second_209 (by decide) ?_
  refine lv_aload_n hx hb dN_second_210 rfl (lv_at hl 1 rfl) ?_
  refine va_get (D := (dC, dI)) (ci := 3) (v := .ref (ad 1)) (C := "MashEnzymesModel") (T := F_N) (N := 14) hx hb hts in_N hown hK hP 0 rfl rfl 0 (by decide) (hts _ tw_f_N_9) (fun _ h9 => h9) rfl dN_second_211 ?_
  refine lv_iconst (v := 2) hx hb dN_second_214 (by decide) ?_
  refine ct_dald (k := 2) (v := b 2) hx hb hK hP 1 0 rfl rfl (by unfold vp_in; decide) (rfl) (rfl) dN_second_215 ?_
  refine lv_dload hx hb dN_second_216 (lv_at hl 0 rfl) ?_
  refine lv_dadd hx hb dN_second_218 (h3.2.2) ?_
  refine ct_dast (k := 2) (w1 := (wN ad cA (s3 b Rr) T Ac gt lt ts nw st hs ht dc pa ib Cc)) hx hb hK hP hD hS 1 0 rfl rfl (by unfold vp_in; decide) (rfl) (rfl) dN_second_219 (fun H locs hP hD hS => ?_)
  exact k ls _ _ hP hD hS (lv_sub hl [1] rfl)
set_option maxHeartbeats 4000000 in
set_option maxRecDepth 100000 in
theorem kN_keyE {p : Program} {l : Launch} {e : Env} {s : State} {m : MethodId} {below : List Frame} {meth : Method} {c : Code} {A : Nat → Prop} {dC : Nat → ClassId} {dI : Nat → Nat → Nat} {tt : Nat → Nat} {ad : Nat → Nat} {cA : Nat → ClassId} {Ac : UInt64} {gt lt : Int32} {ts : UInt64} {c0 : Nat} {hs : Nat → Int32} {ht : Nat → UInt64} {dc : Int32} {pa : Nat → UInt64} {ib : Nat → Int32} {u : SN} (hc32 : c0 ≤ 32) (hAc : ft_P Ac) (hok : okN hs ht c0 Ac u) (C : nCx p s m meth c A dC dI tt ad cA) : ∀ (n i : Nat) (ls : Array Slot) (H : Heap) (locs : List Loc), n + i = 4 → va_P (dC, dI) cls (wN ad cA (s8 (sq7 u.1 (snR hs ht c0 u) (snC hs ht c0 Ac u)) (snR hs ht c0 u) i) (snT hs ht c0 u) Ac gt lt ts u.2.2.1 (nI c0) hs ht dc pa ib (snC hs ht c0 Ac u)) H → va_D A (wN ad cA (s8 (sq7 u.1 (snR hs ht c0 u) (snC hs ht c0 Ac u)) (snR hs ht c0 u) i) (snT hs ht c0 u) Ac gt lt ts u.2.2.1 (nI c0) hs ht dc pa ib (snC hs ht c0 Ac u)) → va_S A s.heap H locs → lv_has ls 15 [(14, .int (nI i)), (0, .ref (ad 0))] → W p l e ({ frames := 1, cells := 0, slots := 0, locals := 28 } : Room) s m ([.ref (ad 0)] : List Value).toArray below meth c H locs 0 0 (MQ below (ctQv dC dI (tN cA) (wR ad cA Ac gt lt ts c0 hs ht dc pa ib (secN hs ht c0 Ac u)) A) ([.ref (ad 0)] : List Value).toArray s 0 0 A) (F0 m 551 ls []) := by
  obtain ⟨hx, hb, hr, hts, hown, hml, hlocks, hA, hK, hT⟩ := id C
  have hT1 : ft_P (snT hs ht c0 u) := hok.2.1
  have hq := hok.2.2
  intro n
  induction n with
  | zero =>
    intro i ls H locs hni hP hD hS hl
    refine lv_iload hx hb dN_second_551 (lv_at hl 0 rfl) ?_
    refine lv_iconst (v := 4) hx hb dN_second_553 (by decide) ?_
    refine lv_icmp_ge (tgt := 603) hx hb dN_second_554 (by decide) (fun c_1 => ?_) (fun c_1 => ?_)
    · have hi : i = 4 := by omega
      subst hi
      refine lv_aload_n hx hb dN_second_603 rfl (lv_at hl 1 rfl) ?_
      refine lv_dup hx hb dN_second_604 rfl ?_
      refine va_get (D := (dC, dI)) (ci := 3) (v := .int u.2.2.1) (C := "MashEnzymesModel") (T := F_N) (N := 14) hx hb hts in_N hown hK hP 0 rfl rfl 6 (by decide) (hts _ tw_f_N_71) (fun _ h9 => h9) rfl dN_second_605 ?_
      refine lv_iconst (v := 1) hx hb dN_second_608 (by decide) ?_
      refine lv_iadd hx hb dN_second_609 ?_
      refine va_put (D := (dC, dI)) (ci := 3) (v := .int (u.2.2.1 + 1)) (ty := .int) (C := "MashEnzymesModel") (T := F_N) (N := 14) hx hb hts in_N t_N t_N_ok n_N hown hK hP hD hS 0 rfl rfl 6 (by decide) (hts _ tw_f_N_71) (fun _ h9 => h9) rfl (by decide +kernel) rfl rfl (Nat.le_of_ble_eq_true rfl) dN_second_610 (fun H locs hP hD hS => ?_)
      have hP : va_P (dC, dI) cls (wN ad cA (s8 (sq7 u.1 (snR hs ht c0 u) (snC hs ht c0 Ac u)) (snR hs ht c0 u) 4) (snT hs ht c0 u) Ac gt lt ts (u.2.2.1 + 1) (nI c0) hs ht dc pa ib (snC hs ht c0 Ac u)) H := hP
      have hD : va_D A (wN ad cA (s8 (sq7 u.1 (snR hs ht c0 u) (snC hs ht c0 Ac u)) (snR hs ht c0 u) 4) (snT hs ht c0 u) Ac gt lt ts (u.2.2.1 + 1) (nI c0) hs ht dc pa ib (snC hs ht c0 Ac u)) := hD
      exact ct_vret hx hb hr hlocks hP hK hD hS dN_second_613
    · exact absurd (nI_le (a := 4) (b := i) (by omega) (by omega)) c_1
  | succ n ih =>
    intro i ls H locs hni hP hD hS hl
    refine lv_iload hx hb dN_second_551 (lv_at hl 0 rfl) ?_
    refine lv_iconst (v := 4) hx hb dN_second_553 (by decide) ?_
    refine lv_icmp_ge (tgt := 603) hx hb dN_second_554 (by decide) (fun c_2 => ?_) (fun c_2 => ?_)
    · exact absurd ((nI_leI (a := 4) (b := i) (by decide) (by omega)).mp c_2) (by omega)
    · have hi : i < 4 := by omega
      refine lv_aload_n hx hb dN_second_557 rfl (lv_at hl 1 rfl) ?_
      refine va_get (D := (dC, dI)) (ci := 3) (v := .ref (ad 1)) (C := "MashEnzymesModel") (T := F_N) (N := 14) hx hb hts in_N hown hK hP 0 rfl rfl 0 (by decide) (hts _ tw_f_N_9) (fun _ h9 => h9) rfl dN_second_558 ?_
      refine lv_bipush (v := 9) hx hb dN_second_561 (by decide) ?_
      refine lv_iload hx hb dN_second_563 (lv_at hl 0 rfl) ?_
      refine lv_iadd hx hb dN_second_565 ?_
      refine ct_topi (y := nI (9 + i)) (by rw [show (9 : Int32) = nI 9 from rfl, nI_add]) ?_
      refine lv_aload_n hx hb dN_second_566 rfl (lv_at hl 1 rfl) ?_
      refine va_get (D := (dC, dI)) (ci := 3) (v := .ref (ad 1)) (C := "MashEnzymesModel") (T := F_N) (N := 14) hx hb hts in_N hown hK hP 0 rfl rfl 0 (by decide) (hts _ tw_f_N_9) (fun _ h9 => h9) rfl dN_second_567 ?_
      refine lv_bipush (v := 9) hx hb dN_second_570 (by decide) ?_
      refine lv_iload hx hb dN_second_572 (lv_at hl 0 rfl) ?_
      refine lv_iadd hx hb dN_second_574 ?_
      refine ct_topi (y := nI (9 + i)) (by rw [show (9 : Int32) = nI 9 from rfl, nI_add]) ?_
      refine ct_dald (k := (9 + i)) (v := (sq7 u.1 (snR hs ht c0 u) (snC hs ht c0 Ac u)) (9 + i)) hx hb hK hP 1 0 rfl rfl (vp_in_nI (by omega) (by decide)) (nI_clamp (by omega)) (s8_at _ _ i) dN_second_575 ?_
      refine lv_aload_n hx hb dN_second_576 rfl (lv_at hl 1 rfl) ?_
      refine va_get (D := (dC, dI)) (ci := 3) (v := .ref (ad 1)) (C := "MashEnzymesModel") (T := F_N) (N := 14) hx hb hts in_N hown hK hP 0 rfl rfl 0 (by decide) (hts _ tw_f_N_9) (fun _ h9 => h9) rfl dN_second_577 ?_
      refine lv_bipush (v := 9) hx hb dN_second_580 (by decide) ?_
      refine lv_iload hx hb dN_second_582 (lv_at hl 0 rfl) ?_
      refine lv_iadd hx hb dN_second_584 ?_
      refine ct_topi (y := nI (9 + i)) (by rw [show (9 : Int32) = nI 9 from rfl, nI_add]) ?_
      refine ct_dald (k := (9 + i)) (v := (sq7 u.1 (snR hs ht c0 u) (snC hs ht c0 Ac u)) (9 + i)) hx hb hK hP 1 0 rfl rfl (vp_in_nI (by omega) (by decide)) (nI_clamp (by omega)) (s8_at _ _ i) dN_second_585 ?_
      refine lv_aload_n hx hb dN_second_586 rfl (lv_at hl 1 rfl) ?_
      refine lv_iconst (v := 5) hx hb dN_second_587 (by decide) ?_
      refine lv_iload hx hb dN_second_588 (lv_at hl 0 rfl) ?_
      refine lv_iadd hx hb dN_second_590 ?_
      refine ct_topi (y := nI (5 + i)) (by rw [show (5 : Int32) = nI 5 from rfl, nI_add]) ?_
      refine ct_cvd (As := [.int (nI (5 + i))]) (rest := [.double ((sq7 u.1 (snR hs ht c0 u) (snC hs ht c0 Ac u)) (9 + i)), .double ((sq7 u.1 (snR hs ht c0 u) (snC hs ht c0 Ac u)) (9 + i)), .int (nI (9 + i)), .ref (ad 1)]) (wr := []) (w1 := (wN ad cA (s8 (sq7 u.1 (snR hs ht c0 u) (snC hs ht c0 Ac u)) (snR hs ht c0 u) i) (snT hs ht c0 u) Ac gt lt ts u.2.2.1 (nI c0) hs ht dc pa ib (snC hs ht c0 Ac u))) ⟨hx, hb, hml, hown, hts⟩ (cN_row l dC dI tt _ ad cA (s8 (sq7 u.1 (snR hs ht c0 u) (snC hs ht c0 Ac u)) (snR hs ht c0 u) i) (snT hs ht c0 u) Ac gt lt ts u.2.2.1 (nI c0) hs ht dc pa ib (snC hs ht c0 Ac u) (5 + i) (by omega) hT1) (gT_V tw_m_N_91 tw_i_yN_row tw_s_yN_row tw_I_N tw_c_yN_row) ⟨rfl, by decide +kernel, by decide +kernel, (by decide +kernel : (parseMethodDescriptor yN_row.desc).map (fun d => d.parameters.length) = some 1)⟩ ⟨by decide, by decide⟩ (ci := 3) rfl rfl rfl hP hD hK hS hA hT [0, 1, 2, 3, 4, 5, 6] [] [0, 1, 2, 3, 4, 5] (by decide) rfl rfl (by decide) (by decide) rfl hl.1 rfl (Nat.le_of_ble_eq_true rfl) dN_second_591 ⟨by decide, by decide⟩ (fun H locs hP hD hS => ?_)
      have hP : va_P (dC, dI) cls (wN ad cA (s8 (sq7 u.1 (snR hs ht c0 u) (snC hs ht c0 Ac u)) (snR hs ht c0 u) i) (snT hs ht c0 u) Ac gt lt ts u.2.2.1 (nI c0) hs ht dc pa ib (snC hs ht c0 Ac u)) H := hP
      have hD : va_D A (wN ad cA (s8 (sq7 u.1 (snR hs ht c0 u) (snC hs ht c0 Ac u)) (snR hs ht c0 u) i) (snT hs ht c0 u) Ac gt lt ts u.2.2.1 (nI c0) hs ht dc pa ib (snC hs ht c0 Ac u)) := hD
      refine ct_topd (y := (snR hs ht c0 u) (4 + i)) (by unfold snR; rw [rwA_in _ (by omega), show rmp (5 + i) = 4 + i by unfold rmp; rw [if_neg (by omega), if_neg (by omega)]; omega]) ?_
      refine lv_dmul hx hb dN_second_594 ((hq.2.2.2.2.2.2 i hi).1) ?_
      refine lv_dsub hx hb dN_second_595 ((hq.2.2.2.2.2.2 i hi).2) ?_
      refine ct_dast (k := (9 + i)) (w1 := (wN ad cA (s8 (sq7 u.1 (snR hs ht c0 u) (snC hs ht c0 Ac u)) (snR hs ht c0 u) (i + 1)) (snT hs ht c0 u) Ac gt lt ts u.2.2.1 (nI c0) hs ht dc pa ib (snC hs ht c0 Ac u))) hx hb hK hP hD hS 1 0 rfl rfl (vp_in_nI (by omega) (by decide)) (nI_clamp (by omega)) (by rw [← s8_s]; rfl) dN_second_596 (fun H locs hP hD hS => ?_)
      refine lv_iinc (v := (nI (i + 1))) (lv' := [(14, .int (nI (i + 1))), (0, .ref (ad 0))]) hx hb dN_second_597 hl (k := 0) rfl (nI_1 i) (by decide) rfl (fun ls hl => ?_)
      refine lv_goto (tgt := 551) hx hb dN_second_600 (by decide) ?_
      exact ih (i + 1) ls H locs (by omega) hP hD hS (lv_sub hl [0, 1] rfl)
set_option maxHeartbeats 4000000 in
set_option maxRecDepth 100000 in
theorem kN_key176 {p : Program} {l : Launch} {e : Env} {s : State} {m : MethodId} {below : List Frame} {meth : Method} {c : Code} {A : Nat → Prop} {dC : Nat → ClassId} {dI : Nat → Nat → Nat} {tt : Nat → Nat} {ad : Nat → Nat} {cA : Nat → ClassId} {Ac : UInt64} {gt lt : Int32} {ts : UInt64} {c0 : Nat} {hs : Nat → Int32} {ht : Nat → UInt64} {dc : Int32} {pa : Nat → UInt64} {ib : Nat → Int32} {u : SN} (hc32 : c0 ≤ 32) (hAc : ft_P Ac) (hok : okN hs ht c0 Ac u) (C : nCx p s m meth c A dC dI tt ad cA) : ∀ (ls : Array Slot) (H : Heap) (locs : List Loc), va_P (dC, dI) cls (wN ad cA u.1 (snT hs ht c0 u) Ac gt lt ts u.2.2.1 (nI c0) hs ht dc pa ib (snC hs ht c0 Ac u)) H → va_D A (wN ad cA u.1 (snT hs ht c0 u) Ac gt lt ts u.2.2.1 (nI c0) hs ht dc pa ib (snC hs ht c0 Ac u)) → va_S A s.heap H locs → lv_has ls 15 [(0, .ref (ad 0))] → W p l e ({ frames := 1, cells := 0, slots := 0, locals := 28 } : Room) s m ([.ref (ad 0)] : List Value).toArray below meth c H locs 0 0 (MQ below (ctQv dC dI (tN cA) (wR ad cA Ac gt lt ts c0 hs ht dc pa ib (secN hs ht c0 Ac u)) A) ([.ref (ad 0)] : List Value).toArray s 0 0 A) (F0 m 176 ls []) := by
  obtain ⟨hx, hb, hr, hts, hown, hml, hlocks, hA, hK, hT⟩ := id C
  have hT1 : ft_P (snT hs ht c0 u) := hok.2.1
  have hq := hok.2.2
  have keyE := kN_keyE (l := l) (e := e) (below := below) (gt := gt) (lt := lt) (ts := ts) (dc := dc) (pa := pa) (ib := ib) hc32 hAc hok C
  intro ls H locs hP hD hS hl
  exact gN_3 (l := l) (e := e) (below := below) u.1 (snC hs ht c0 Ac u) (snR hs ht c0 u) (snT hs ht c0 u) Ac gt lt ts u.2.2.1 (nI c0) hs ht dc pa ib C hq.2.1 hT1 (by unfold snR; rw [rwA_in _ (by decide)]; rfl) (gN_4 (sq3 u.1 (snR hs ht c0 u)) (snC hs ht c0 Ac u) (snR hs ht c0 u) (snT hs ht c0 u) Ac gt lt ts u.2.2.1 (nI c0) hs ht dc pa ib C hq.2.2.1 hq.2.2.2.1 (gN_5 (sq4 u.1 (snR hs ht c0 u) (snC hs ht c0 Ac u)) (snC hs ht c0 Ac u) (snR hs ht c0 u) (snT hs ht c0 u) Ac gt lt ts u.2.2.1 (nI c0) hs ht dc pa ib C hq.2.2.2.1 hq.2.2.2.2.1 (gN_6 (sq5 u.1 (snR hs ht c0 u) (snC hs ht c0 Ac u)) (snC hs ht c0 Ac u) (snR hs ht c0 u) (snT hs ht c0 u) Ac gt lt ts u.2.2.1 (nI c0) hs ht dc pa ib C hq.2.2.2.2.1 hq.2.2.2.2.2.1 (fun ls H locs hP hD hS hl => keyE 4 0 ls _ _ rfl (by rw [s8_0]; exact hP) (by rw [s8_0]; exact hD) hS hl)))) ls H locs hP hD hS hl
set_option maxHeartbeats 4000000 in
set_option maxRecDepth 100000 in
theorem kN_keyA {p : Program} {l : Launch} {e : Env} {s : State} {m : MethodId} {below : List Frame} {meth : Method} {c : Code} {A : Nat → Prop} {dC : Nat → ClassId} {dI : Nat → Nat → Nat} {tt : Nat → Nat} {ad : Nat → Nat} {cA : Nat → ClassId} {Ac : UInt64} {gt lt : Int32} {ts : UInt64} {c0 : Nat} {hs : Nat → Int32} {ht : Nat → UInt64} {dc : Int32} {pa : Nat → UInt64} {ib : Nat → Int32} {u : SN} (hc32 : c0 ≤ 32) (hAc : ft_P Ac) (hok : okN hs ht c0 Ac u) (C : nCx p s m meth c A dC dI tt ad cA) : ∀ (n i : Nat) (ls : Array Slot) (H : Heap) (locs : List Loc), n + i = 4 → va_P (dC, dI) cls (wN ad cA u.1 (snT hs ht c0 u) Ac gt lt ts u.2.2.1 (nI c0) hs ht dc pa ib (actA u.1 (snR hs ht c0 u) Ac i u.2.1)) H → va_D A (wN ad cA u.1 (snT hs ht c0 u) Ac gt lt ts u.2.2.1 (nI c0) hs ht dc pa ib (actA u.1 (snR hs ht c0 u) Ac i u.2.1)) → va_S A s.heap H locs → lv_has ls 15 [(4, .int (nI i)), (2, .double (fitA Ac)), (0, .ref (ad 0))] → W p l e ({ frames := 1, cells := 0, slots := 0, locals := 28 } : Room) s m ([.ref (ad 0)] : List Value).toArray below meth c H locs 0 0 (MQ below (ctQv dC dI (tN cA) (wR ad cA Ac gt lt ts c0 hs ht dc pa ib (secN hs ht c0 Ac u)) A) ([.ref (ad 0)] : List Value).toArray s 0 0 A) (F0 m 109 ls []) := by
  obtain ⟨hx, hb, hr, hts, hown, hml, hlocks, hA, hK, hT⟩ := id C
  have hT1 : ft_P (snT hs ht c0 u) := hok.2.1
  have hq := hok.2.2
  have keyE := kN_keyE (l := l) (e := e) (below := below) (gt := gt) (lt := lt) (ts := ts) (dc := dc) (pa := pa) (ib := ib) hc32 hAc hok C
  have key176 := kN_key176 (l := l) (e := e) (below := below) (gt := gt) (lt := lt) (ts := ts) (dc := dc) (pa := pa) (ib := ib) hc32 hAc hok C
  intro n
  induction n with
  | zero =>
    intro i ls H locs hni hP hD hS hl
    refine lv_iload hx hb dN_second_109 (lv_at hl 0 rfl) ?_
    refine lv_iconst (v := 4) hx hb dN_second_111 (by decide) ?_
    refine lv_icmp_ge (tgt := 176) hx hb dN_second_112 (by decide) (fun c_3 => ?_) (fun c_3 => ?_)
    · have hi : i = 4 := by omega
      subst hi
      exact key176 ls _ _ hP hD hS (lv_sub hl [2] rfl)
    · exact absurd (nI_le (a := 4) (b := i) (by omega) (by omega)) c_3
  | succ n ih =>
    intro i ls H locs hni hP hD hS hl
    refine lv_iload hx hb dN_second_109 (lv_at hl 0 rfl) ?_
    refine lv_iconst (v := 4) hx hb dN_second_111 (by decide) ?_
    refine lv_icmp_ge (tgt := 176) hx hb dN_second_112 (by decide) (fun c_4 => ?_) (fun c_4 => ?_)
    · exact absurd ((nI_leI (a := 4) (b := i) (by decide) (by omega)).mp c_4) (by omega)
    · have hi : i < 4 := by omega
      refine lv_aload_n hx hb dN_second_115 rfl (lv_at hl 2 rfl) ?_
      refine va_get (D := (dC, dI)) (ci := 3) (v := .ref (ad 1)) (C := "MashEnzymesModel") (T := F_N) (N := 14) hx hb hts in_N hown hK hP 0 rfl rfl 0 (by decide) (hts _ tw_f_N_9) (fun _ h9 => h9) rfl dN_second_116 ?_
      refine lv_bipush (v := 9) hx hb dN_second_119 (by decide) ?_
      refine lv_iload hx hb dN_second_121 (lv_at hl 0 rfl) ?_
      refine lv_iadd hx hb dN_second_123 ?_
      refine ct_topi (y := nI (9 + i)) (by rw [show (9 : Int32) = nI 9 from rfl, nI_add]) ?_
      refine ct_dald (k := (9 + i)) (v := u.1 (9 + i)) hx hb hK hP 1 0 rfl rfl (vp_in_nI (by omega) (by decide)) (nI_clamp (by omega)) (rfl) dN_second_124 ?_
      refine lv_aload_n hx hb dN_second_125 rfl (lv_at hl 2 rfl) ?_
      refine lv_iload hx hb dN_second_126 (lv_at hl 0 rfl) ?_
      refine ct_cvd (As := [.int (nI i)]) (rest := [.double (u.1 (9 + i))]) (wr := []) (w1 := (wN ad cA u.1 (snT hs ht c0 u) Ac gt lt ts u.2.2.1 (nI c0) hs ht dc pa ib (actA u.1 (snR hs ht c0 u) Ac i u.2.1))) ⟨hx, hb, hml, hown, hts⟩ (cN_row l dC dI tt _ ad cA u.1 (snT hs ht c0 u) Ac gt lt ts u.2.2.1 (nI c0) hs ht dc pa ib (actA u.1 (snR hs ht c0 u) Ac i u.2.1) i (by omega) hT1) (gT_V tw_m_N_91 tw_i_yN_row tw_s_yN_row tw_I_N tw_c_yN_row) ⟨rfl, by decide +kernel, by decide +kernel, (by decide +kernel : (parseMethodDescriptor yN_row.desc).map (fun d => d.parameters.length) = some 1)⟩ ⟨by decide, by decide⟩ (ci := 3) rfl rfl rfl hP hD hK hS hA hT [0, 1, 2, 3, 4, 5, 6] [] [0, 1, 2, 3, 4, 5] (by decide) rfl rfl (by decide) (by decide) rfl hl.1 rfl (Nat.le_of_ble_eq_true rfl) dN_second_128 ⟨by decide, by decide⟩ (fun H locs hP hD hS => ?_)
      have hP : va_P (dC, dI) cls (wN ad cA u.1 (snT hs ht c0 u) Ac gt lt ts u.2.2.1 (nI c0) hs ht dc pa ib (actA u.1 (snR hs ht c0 u) Ac i u.2.1)) H := hP
      have hD : va_D A (wN ad cA u.1 (snT hs ht c0 u) Ac gt lt ts u.2.2.1 (nI c0) hs ht dc pa ib (actA u.1 (snR hs ht c0 u) Ac i u.2.1)) := hD
      refine ct_topd (y := (snR hs ht c0 u) i) (by unfold snR; rw [rwA_in _ (by omega), show rmp i = i from if_pos hi]) ?_
      refine lv_dmul hx hb dN_second_131 ((hq.1 i hi).1) ?_
      refine lv_dload_n hx hb dN_second_132 rfl (lv_at hl 1 rfl) ?_
      refine lv_dmul hx hb dN_second_133 ((hq.1 i hi).2.1) ?_
      refine lv_dstore (lv' := [(5, .double (FP.dmul (FP.dmul (u.1 (9 + i)) ((snR hs ht c0 u) i)) (fitA Ac))), (4, .int (nI i)), (2, .double (fitA Ac)), (0, .ref (ad 0))]) hx hb dN_second_134 hl (by decide) rfl (fun ls hl => ?_)
      refine lv_aload_n hx hb dN_second_136 rfl (lv_at hl 3 rfl) ?_
      refine va_get (D := (dC, dI)) (ci := 3) (v := .ref (ad 6)) (C := "MashEnzymesModel") (T := F_N) (N := 14) hx hb hts in_N hown hK hP 0 rfl rfl 13 (by decide) (hts _ tw_f_N_27) (fun _ h9 => h9) rfl dN_second_137 ?_
      refine lv_iload hx hb dN_second_140 (lv_at hl 1 rfl) ?_
      refine lv_dload hx hb dN_second_142 (lv_at hl 0 rfl) ?_
      refine lv_dconst0 hx hb dN_second_144 ?_
      refine ct_topd (y := 0) rfl ?_
      refine lv_dcmp hx hb dN_second_145 ?_
      refine lv_if_le (tgt := 168) hx hb dN_second_146 (by decide) (fun c_5 => ?_) (fun c_5 => ?_)
      · have hg : ¬ FP.dcmp (FP.dmul (FP.dmul (u.1 (9 + i)) ((snR hs ht c0 u) i)) (fitA Ac)) 0 = some .gt := (cv_l_le _).mp c_5
        have hE : actE u.1 (snR hs ht c0 u) Ac i = 0 := by unfold actE actX; exact if_neg hg
        refine lv_dconst0 hx hb dN_second_168 ?_
        refine ct_topd (y := 0) rfl ?_
        refine ct_dast (k := i) (w1 := (wN ad cA u.1 (snT hs ht c0 u) Ac gt lt ts u.2.2.1 (nI c0) hs ht dc pa ib (actA u.1 (snR hs ht c0 u) Ac (i + 1) u.2.1))) hx hb hK hP hD hS 6 5 rfl rfl (vp_in_nI (by omega) (by decide)) (nI_clamp (by omega)) (by rw [← actA_s, hE]; rfl) dN_second_169 (fun H locs hP hD hS => ?_)
        refine lv_iinc (v := (nI (i + 1))) (lv' := [(4, .int (nI (i + 1))), (5, .double (FP.dmul (FP.dmul (u.1 (9 + i)) ((snR hs ht c0 u) i)) (fitA Ac))), (2, .double (fitA Ac)), (0, .ref (ad 0))]) hx hb dN_second_170 hl (k := 1) rfl (nI_1 i) (by decide) rfl (fun ls hl => ?_)
        refine lv_goto (tgt := 109) hx hb dN_second_173 (by decide) ?_
        exact ih (i + 1) ls H locs (by omega) hP hD hS (lv_sub hl [0, 2, 3] rfl)
      · have hg : FP.dcmp (FP.dmul (FP.dmul (u.1 (9 + i)) ((snR hs ht c0 u) i)) (fitA Ac)) 0 = some .gt := Classical.not_not.mp fun h => c_5 ((cv_l_le _).mpr h)
        have hE : actE u.1 (snR hs ht c0 u) Ac i = FP.dmul (FP.ddiv (FP.dmul (FP.dmul (u.1 (9 + i)) ((snR hs ht c0 u) i)) (fitA Ac)) (FP.dadd (FP.dmul (FP.dmul (u.1 (9 + i)) ((snR hs ht c0 u) i)) (fitA Ac)) (u.1 0))) 4589168020290535424 := by unfold actE actX; exact if_pos hg
        refine lv_dload hx hb dN_second_149 (lv_at hl 0 rfl) ?_
        refine lv_dload hx hb dN_second_151 (lv_at hl 0 rfl) ?_
        refine lv_aload_n hx hb dN_second_153 rfl (lv_at hl 3 rfl) ?_
        refine va_get (D := (dC, dI)) (ci := 3) (v := .ref (ad 1)) (C := "MashEnzymesModel") (T := F_N) (N := 14) hx hb hts in_N hown hK hP 0 rfl rfl 0 (by decide) (hts _ tw_f_N_9) (fun _ h9 => h9) rfl dN_second_154 ?_
        refine lv_iconst (v := 0) hx hb dN_second_157 (by decide) ?_
        refine ct_dald (k := 0) (v := u.1 0) hx hb hK hP 1 0 rfl rfl (by unfold vp_in; decide) (rfl) (rfl) dN_second_158 ?_
        refine lv_dadd hx hb dN_second_159 (((hq.1 i hi).2.2 hg).1) ?_
        refine lv_ddiv hx hb dN_second_160 (((hq.1 i hi).2.2 hg).2.1) ?_
        refine lv_ldc2d hx hb hown (hts _ tw_d_N_38) dN_second_161 ?_
        refine lv_dmul hx hb dN_second_164 (((hq.1 i hi).2.2 hg).2.2) ?_
        refine lv_goto (tgt := 169) hx hb dN_second_165 (by decide) ?_
        refine ct_dast (k := i) (w1 := (wN ad cA u.1 (snT hs ht c0 u) Ac gt lt ts u.2.2.1 (nI c0) hs ht dc pa ib (actA u.1 (snR hs ht c0 u) Ac (i + 1) u.2.1))) hx hb hK hP hD hS 6 5 rfl rfl (vp_in_nI (by omega) (by decide)) (nI_clamp (by omega)) (by rw [← actA_s, hE]; rfl) dN_second_169 (fun H locs hP hD hS => ?_)
        refine lv_iinc (v := (nI (i + 1))) (lv' := [(4, .int (nI (i + 1))), (5, .double (FP.dmul (FP.dmul (u.1 (9 + i)) ((snR hs ht c0 u) i)) (fitA Ac))), (2, .double (fitA Ac)), (0, .ref (ad 0))]) hx hb dN_second_170 hl (k := 1) rfl (nI_1 i) (by decide) rfl (fun ls hl => ?_)
        refine lv_goto (tgt := 109) hx hb dN_second_173 (by decide) ?_
        exact ih (i + 1) ls H locs (by omega) hP hD hS (lv_sub hl [0, 2, 3] rfl)
set_option maxHeartbeats 4000000 in
set_option maxRecDepth 100000 in
theorem kN_key70 {p : Program} {l : Launch} {e : Env} {s : State} {m : MethodId} {below : List Frame} {meth : Method} {c : Code} {A : Nat → Prop} {dC : Nat → ClassId} {dI : Nat → Nat → Nat} {tt : Nat → Nat} {ad : Nat → Nat} {cA : Nat → ClassId} {Ac : UInt64} {gt lt : Int32} {ts : UInt64} {c0 : Nat} {hs : Nat → Int32} {ht : Nat → UInt64} {dc : Int32} {pa : Nat → UInt64} {ib : Nat → Int32} {u : SN} (hc32 : c0 ≤ 32) (hAc : ft_P Ac) (hok : okN hs ht c0 Ac u) (C : nCx p s m meth c A dC dI tt ad cA) : ∀ (ls : Array Slot) (H : Heap) (locs : List Loc), va_P (dC, dI) cls (wN ad cA u.1 (snT hs ht c0 u) Ac gt lt ts u.2.2.1 (nI c0) hs ht dc pa ib u.2.1) H → va_D A (wN ad cA u.1 (snT hs ht c0 u) Ac gt lt ts u.2.2.1 (nI c0) hs ht dc pa ib u.2.1) → va_S A s.heap H locs → lv_has ls 15 [(0, .ref (ad 0))] → W p l e ({ frames := 1, cells := 0, slots := 0, locals := 28 } : Room) s m ([.ref (ad 0)] : List Value).toArray below meth c H locs 0 0 (MQ below (ctQv dC dI (tN cA) (wR ad cA Ac gt lt ts c0 hs ht dc pa ib (secN hs ht c0 Ac u)) A) ([.ref (ad 0)] : List Value).toArray s 0 0 A) (F0 m 70 ls []) := by
  obtain ⟨hx, hb, hr, hts, hown, hml, hlocks, hA, hK, hT⟩ := id C
  have hT1 : ft_P (snT hs ht c0 u) := hok.2.1
  have hq := hok.2.2
  have keyE := kN_keyE (l := l) (e := e) (below := below) (gt := gt) (lt := lt) (ts := ts) (dc := dc) (pa := pa) (ib := ib) hc32 hAc hok C
  have key176 := kN_key176 (l := l) (e := e) (below := below) (gt := gt) (lt := lt) (ts := ts) (dc := dc) (pa := pa) (ib := ib) hc32 hAc hok C
  have keyA := kN_keyA (l := l) (e := e) (below := below) (gt := gt) (lt := lt) (ts := ts) (dc := dc) (pa := pa) (ib := ib) hc32 hAc hok C
  intro ls H locs hP hD hS hl
  refine lv_dconst1 hx hb dN_second_70 ?_
  refine ct_topd (y := 4607182418800017408) rfl ?_
  refine lv_aload_n hx hb dN_second_71 rfl (lv_at hl 0 rfl) ?_
  refine va_get (D := (dC, dI)) (ci := 3) (v := .double Ac) (C := "MashEnzymesModel") (T := F_N) (N := 14) hx hb hts in_N hown hK hP 0 rfl rfl 2 (by decide) (hts _ tw_f_N_65) (fun _ h9 => h9) rfl dN_second_72 ?_
  refine lv_ldc2d hx hb hown (hts _ tw_d_N_89) dN_second_75 ?_
  refine lv_dsub hx hb dN_second_78 ((ft_fitness hAc).1) ?_
  refine lv_aload_n hx hb dN_second_79 rfl (lv_at hl 0 rfl) ?_
  refine va_get (D := (dC, dI)) (ci := 3) (v := .double Ac) (C := "MashEnzymesModel") (T := F_N) (N := 14) hx hb hts in_N hown hK hP 0 rfl rfl 2 (by decide) (hts _ tw_f_N_65) (fun _ h9 => h9) rfl dN_second_80 ?_
  refine lv_ldc2d hx hb hown (hts _ tw_d_N_89) dN_second_83 ?_
  refine lv_dsub hx hb dN_second_86 ((ft_fitness hAc).1) ?_
  refine lv_dmul hx hb dN_second_87 ((ft_fitness hAc).2.1) ?_
  refine lv_ldc2d hx hb hown (hts _ tw_d_N_44) dN_second_88 ?_
  refine lv_dmul hx hb dN_second_91 ((ft_fitness hAc).2.2.1) ?_
  refine lv_dsub hx hb dN_second_92 ((ft_fitness hAc).2.2.2.1) ?_
  refine lv_dstore_n (lv' := [(2, .double (FP.dsub 4607182418800017408 (FP.dmul (FP.dmul (FP.dsub Ac 4617878467915022336) (FP.dsub Ac 4617878467915022336)) 4598175219545276416))), (0, .ref (ad 0))]) hx hb dN_second_93 rfl hl (by decide) rfl (fun ls hl => ?_)
  refine lv_dload_n hx hb dN_second_94 rfl (lv_at hl 0 rfl) ?_
  refine lv_dconst0 hx hb dN_second_95 ?_
  refine ct_topd (y := 0) rfl ?_
  refine lv_dcmp hx hb dN_second_96 ?_
  refine lv_if_ge (tgt := 104) hx hb dN_second_97 (by decide) (fun c_6 => ?_) (fun c_6 => ?_)
  · refine lv_dload_n hx hb dN_second_104 rfl (lv_at hl 0 rfl) ?_
    refine ct_topd (y := fitA Ac) (by unfold fitA; rw [if_neg ((cv_g_ge _).mp c_6)]) ?_
    refine lv_dstore_n (lv' := [(2, .double (fitA Ac)), (0, .ref (ad 0))]) hx hb dN_second_105 rfl hl (by decide) rfl (fun ls hl => ?_)
    refine lv_iconst (v := 0) hx hb dN_second_106 (by decide) ?_
    refine ct_topi (y := nI 0) (rfl) ?_
    refine lv_istore (lv' := [(4, .int (nI 0)), (2, .double (fitA Ac)), (0, .ref (ad 0))]) hx hb dN_second_107 hl (by decide) rfl (fun ls hl => ?_)
    rw [← actA_0 u.1 (snR hs ht c0 u) Ac u.2.1] at hP hD
    exact keyA 4 0 ls _ _ rfl hP hD hS (lv_sub hl [0, 1, 2] rfl)
  · refine lv_dconst0 hx hb dN_second_100 ?_
    refine ct_topd (y := 0) rfl ?_
    refine lv_goto (tgt := 105) hx hb dN_second_101 (by decide) ?_
    refine ct_topd (y := fitA Ac) (by unfold fitA; rw [if_pos (Classical.not_not.mp fun h => c_6 ((cv_g_ge _).mpr h))]) ?_
    refine lv_dstore_n (lv' := [(2, .double (fitA Ac)), (0, .ref (ad 0))]) hx hb dN_second_105 rfl hl (by decide) rfl (fun ls hl => ?_)
    refine lv_iconst (v := 0) hx hb dN_second_106 (by decide) ?_
    refine ct_topi (y := nI 0) (rfl) ?_
    refine lv_istore (lv' := [(4, .int (nI 0)), (2, .double (fitA Ac)), (0, .ref (ad 0))]) hx hb dN_second_107 hl (by decide) rfl (fun ls hl => ?_)
    rw [← actA_0 u.1 (snR hs ht c0 u) Ac u.2.1] at hP hD
    exact keyA 4 0 ls _ _ rfl hP hD hS (lv_sub hl [0, 1, 2] rfl)
set_option maxHeartbeats 4000000 in
set_option maxRecDepth 100000 in
theorem kN_keyK {p : Program} {l : Launch} {e : Env} {s : State} {m : MethodId} {below : List Frame} {meth : Method} {c : Code} {A : Nat → Prop} {dC : Nat → ClassId} {dI : Nat → Nat → Nat} {tt : Nat → Nat} {ad : Nat → Nat} {cA : Nat → ClassId} {Ac : UInt64} {gt lt : Int32} {ts : UInt64} {c0 : Nat} {hs : Nat → Int32} {ht : Nat → UInt64} {dc : Int32} {pa : Nat → UInt64} {ib : Nat → Int32} {u : SN} (hc32 : c0 ≤ 32) (hAc : ft_P Ac) (hok : okN hs ht c0 Ac u) (C : nCx p s m meth c A dC dI tt ad cA) : ∀ (n k : Nat) (ls : Array Slot) (H : Heap) (locs : List Loc), n + k = c0 → fstN hs u.2.2.1 c0 n k = (fst hs u.2.2.1 c0 0) → va_P (dC, dI) cls (wN ad cA u.1 u.2.2.2 Ac gt lt ts u.2.2.1 (nI c0) hs ht dc pa ib u.2.1) H → va_D A (wN ad cA u.1 u.2.2.2 Ac gt lt ts u.2.2.1 (nI c0) hs ht dc pa ib u.2.1) → va_S A s.heap H locs → lv_has ls 15 [(1, .int (nI k)), (0, .ref (ad 0))] → W p l e ({ frames := 1, cells := 0, slots := 0, locals := 28 } : Room) s m ([.ref (ad 0)] : List Value).toArray below meth c H locs 0 0 (MQ below (ctQv dC dI (tN cA) (wR ad cA Ac gt lt ts c0 hs ht dc pa ib (secN hs ht c0 Ac u)) A) ([.ref (ad 0)] : List Value).toArray s 0 0 A) (F0 m 2 ls []) := by
  obtain ⟨hx, hb, hr, hts, hown, hml, hlocks, hA, hK, hT⟩ := id C
  have hT1 : ft_P (snT hs ht c0 u) := hok.2.1
  have hq := hok.2.2
  have keyE := kN_keyE (l := l) (e := e) (below := below) (gt := gt) (lt := lt) (ts := ts) (dc := dc) (pa := pa) (ib := ib) hc32 hAc hok C
  have key176 := kN_key176 (l := l) (e := e) (below := below) (gt := gt) (lt := lt) (ts := ts) (dc := dc) (pa := pa) (ib := ib) hc32 hAc hok C
  have keyA := kN_keyA (l := l) (e := e) (below := below) (gt := gt) (lt := lt) (ts := ts) (dc := dc) (pa := pa) (ib := ib) hc32 hAc hok C
  have key70 := kN_key70 (l := l) (e := e) (below := below) (gt := gt) (lt := lt) (ts := ts) (dc := dc) (pa := pa) (ib := ib) hc32 hAc hok C
  intro n
  induction n with
  | zero =>
    intro k ls H locs hni hm hP hD hS hl
    refine lv_iload_n hx hb dN_second_2 rfl (lv_at hl 0 rfl) ?_
    refine lv_aload_n hx hb dN_second_3 rfl (lv_at hl 1 rfl) ?_
    refine va_get (D := (dC, dI)) (ci := 3) (v := .int (nI c0)) (C := "MashEnzymesModel") (T := F_N) (N := 14) hx hb hts in_N hown hK hP 0 rfl rfl 7 (by decide) (hts _ tw_f_N_75) (fun _ h9 => h9) rfl dN_second_4 ?_
    refine lv_icmp_ge (tgt := 29) hx hb dN_second_7 (by decide) (fun c_7 => ?_) (fun c_7 => ?_)
    · have hkK : k = (fst hs u.2.2.1 c0 0) := hm
      refine lv_iload_n hx hb dN_second_29 rfl (lv_at hl 0 rfl) ?_
      refine lv_aload_n hx hb dN_second_30 rfl (lv_at hl 1 rfl) ?_
      refine va_get (D := (dC, dI)) (ci := 3) (v := .int (nI c0)) (C := "MashEnzymesModel") (T := F_N) (N := 14) hx hb hts in_N hown hK hP 0 rfl rfl 7 (by decide) (hts _ tw_f_N_75) (fun _ h9 => h9) rfl dN_second_31 ?_
      refine lv_icmp_ge (tgt := 70) hx hb dN_second_34 (by decide) (fun c_8 => ?_) (fun c_8 => ?_)
      · have hT9 : snT hs ht c0 u = u.2.2.2 := by unfold snT heatT; rw [if_neg (by omega)]
        have hP : va_P (dC, dI) cls (wN ad cA u.1 (snT hs ht c0 u) Ac gt lt ts u.2.2.1 (nI c0) hs ht dc pa ib u.2.1) _ := (by rw [hT9]; exact hP)
        have hD : va_D A (wN ad cA u.1 (snT hs ht c0 u) Ac gt lt ts u.2.2.1 (nI c0) hs ht dc pa ib u.2.1) := (by rw [hT9]; exact hD)
        exact key70 ls _ _ hP hD hS (lv_sub hl [1] rfl)
      · exact absurd (nI_le (a := c0) (b := k) (by omega) (by omega)) c_8
    · exact absurd (nI_le (a := c0) (b := k) (by omega) (by omega)) c_7
  | succ n ih =>
    intro k ls H locs hni hm hP hD hS hl
    refine lv_iload_n hx hb dN_second_2 rfl (lv_at hl 0 rfl) ?_
    refine lv_aload_n hx hb dN_second_3 rfl (lv_at hl 1 rfl) ?_
    refine va_get (D := (dC, dI)) (ci := 3) (v := .int (nI c0)) (C := "MashEnzymesModel") (T := F_N) (N := 14) hx hb hts in_N hown hK hP 0 rfl rfl 7 (by decide) (hts _ tw_f_N_75) (fun _ h9 => h9) rfl dN_second_4 ?_
    refine lv_icmp_ge (tgt := 29) hx hb dN_second_7 (by decide) (fun c_9 => ?_) (fun c_9 => ?_)
    · exact absurd ((nI_leI (a := c0) (b := k) (by omega) (by omega)).mp c_9) (by omega)
    · refine lv_aload_n hx hb dN_second_10 rfl (lv_at hl 1 rfl) ?_
      refine va_get (D := (dC, dI)) (ci := 3) (v := .ref (ad 2)) (C := "MashEnzymesModel") (T := F_N) (N := 14) hx hb hts in_N hown hK hP 0 rfl rfl 8 (by decide) (hts _ tw_f_N_13) (fun _ h9 => h9) rfl dN_second_11 ?_
      refine lv_iload_n hx hb dN_second_14 rfl (lv_at hl 0 rfl) ?_
      refine ct_iald (k := k) (v := hs k) hx hb hK hP 2 1 rfl rfl (vp_in_nI (by omega) (by decide)) (nI_clamp (by omega)) (rfl) dN_second_15 ?_
      refine lv_aload_n hx hb dN_second_16 rfl (lv_at hl 1 rfl) ?_
      refine va_get (D := (dC, dI)) (ci := 3) (v := .int u.2.2.1) (C := "MashEnzymesModel") (T := F_N) (N := 14) hx hb hts in_N hown hK hP 0 rfl rfl 6 (by decide) (hts _ tw_f_N_71) (fun _ h9 => h9) rfl dN_second_17 ?_
      refine lv_icmp_gt (tgt := 29) hx hb dN_second_20 (by decide) (fun c_10 => ?_) (fun c_10 => ?_)
      · have hkK : k = (fst hs u.2.2.1 c0 0) := by unfold fstN at hm; rw [if_neg (fun h => absurd h.2 (Int32.not_le.mpr c_10))] at hm; exact hm
        have hkc : (fst hs u.2.2.1 c0 0) < c0 := by omega
        have hkc2 : k < c0 := by omega
        refine lv_iload_n hx hb dN_second_29 rfl (lv_at hl 0 rfl) ?_
        refine lv_aload_n hx hb dN_second_30 rfl (lv_at hl 1 rfl) ?_
        refine va_get (D := (dC, dI)) (ci := 3) (v := .int (nI c0)) (C := "MashEnzymesModel") (T := F_N) (N := 14) hx hb hts in_N hown hK hP 0 rfl rfl 7 (by decide) (hts _ tw_f_N_75) (fun _ h9 => h9) rfl dN_second_31 ?_
        refine lv_icmp_ge (tgt := 70) hx hb dN_second_34 (by decide) (fun c_11 => ?_) (fun c_11 => ?_)
        · exact absurd ((nI_leI (a := c0) (b := k) (by omega) (by omega)).mp c_11) (by omega)
        · refine lv_aload_n hx hb dN_second_37 rfl (lv_at hl 1 rfl) ?_
          refine lv_aload_n hx hb dN_second_38 rfl (lv_at hl 1 rfl) ?_
          refine va_get (D := (dC, dI)) (ci := 3) (v := .double u.2.2.2) (C := "MashEnzymesModel") (T := F_N) (N := 14) hx hb hts in_N hown hK hP 0 rfl rfl 1 (by decide) (hts _ tw_f_N_62) (fun _ h9 => h9) rfl dN_second_39 ?_
          refine lv_aload_n hx hb dN_second_42 rfl (lv_at hl 1 rfl) ?_
          refine va_get (D := (dC, dI)) (ci := 3) (v := .ref (ad 3)) (C := "MashEnzymesModel") (T := F_N) (N := 14) hx hb hts in_N hown hK hP 0 rfl rfl 9 (by decide) (hts _ tw_f_N_17) (fun _ h9 => h9) rfl dN_second_43 ?_
          refine lv_iload_n hx hb dN_second_46 rfl (lv_at hl 0 rfl) ?_
          refine ct_dald (k := k) (v := ht (fst hs u.2.2.1 c0 0)) hx hb hK hP 3 2 rfl rfl (vp_in_nI (by omega) (by decide)) (nI_clamp (by omega)) (by rw [hkK]) dN_second_47 ?_
          refine lv_aload_n hx hb dN_second_48 rfl (lv_at hl 1 rfl) ?_
          refine va_get (D := (dC, dI)) (ci := 3) (v := .double u.2.2.2) (C := "MashEnzymesModel") (T := F_N) (N := 14) hx hb hts in_N hown hK hP 0 rfl rfl 1 (by decide) (hts _ tw_f_N_62) (fun _ h9 => h9) rfl dN_second_49 ?_
          refine lv_dsub hx hb dN_second_52 ((hok.1 hkc).1) ?_
          refine lv_aload_n hx hb dN_second_53 rfl (lv_at hl 1 rfl) ?_
          refine va_get (D := (dC, dI)) (ci := 3) (v := .ref (ad 2)) (C := "MashEnzymesModel") (T := F_N) (N := 14) hx hb hts in_N hown hK hP 0 rfl rfl 8 (by decide) (hts _ tw_f_N_13) (fun _ h9 => h9) rfl dN_second_54 ?_
          refine lv_iload_n hx hb dN_second_57 rfl (lv_at hl 0 rfl) ?_
          refine ct_iald (k := k) (v := hs (fst hs u.2.2.1 c0 0)) hx hb hK hP 2 1 rfl rfl (vp_in_nI (by omega) (by decide)) (nI_clamp (by omega)) (by rw [hkK]) dN_second_58 ?_
          refine lv_aload_n hx hb dN_second_59 rfl (lv_at hl 1 rfl) ?_
          refine va_get (D := (dC, dI)) (ci := 3) (v := .int u.2.2.1) (C := "MashEnzymesModel") (T := F_N) (N := 14) hx hb hts in_N hown hK hP 0 rfl rfl 6 (by decide) (hts _ tw_f_N_71) (fun _ h9 => h9) rfl dN_second_60 ?_
          refine lv_isub hx hb dN_second_63 ?_
          refine lv_i2d hx hb dN_second_64 ?_
          refine lv_ddiv hx hb dN_second_65 ((hok.1 hkc).2.1) ?_
          refine lv_dadd hx hb dN_second_66 ((hok.1 hkc).2.2) ?_
          refine ct_topd (y := snT hs ht c0 u) (by unfold snT heatT; rw [if_pos hkc]) ?_
          refine va_put (D := (dC, dI)) (ci := 3) (v := .double (snT hs ht c0 u)) (ty := .double) (C := "MashEnzymesModel") (T := F_N) (N := 14) hx hb hts in_N t_N t_N_ok n_N hown hK hP hD hS 0 rfl rfl 1 (by decide) (hts _ tw_f_N_62) (fun _ h9 => h9) rfl (by decide +kernel) rfl rfl (Nat.le_of_ble_eq_true rfl) dN_second_67 (fun H locs hP hD hS => ?_)
          have hP : va_P (dC, dI) cls (wN ad cA u.1 (snT hs ht c0 u) Ac gt lt ts u.2.2.1 (nI c0) hs ht dc pa ib u.2.1) H := hP
          have hD : va_D A (wN ad cA u.1 (snT hs ht c0 u) Ac gt lt ts u.2.2.1 (nI c0) hs ht dc pa ib u.2.1) := hD
          exact key70 ls _ _ hP hD hS (lv_sub hl [1] rfl)
      · have hle : hs k ≤ u.2.2.1 := Int32.not_lt.mp c_10
        have hkc : k < c0 := by omega
        unfold fstN at hm
        rw [if_pos ⟨hkc, hle⟩] at hm
        refine lv_iinc (v := (nI (k + 1))) (lv' := [(1, .int (nI (k + 1))), (0, .ref (ad 0))]) hx hb dN_second_23 hl (k := 0) rfl (nI_1 k) (by decide) rfl (fun ls hl => ?_)
        refine lv_goto (tgt := 2) hx hb dN_second_26 (by decide) ?_
        exact ih (k + 1) ls _ _ (by omega) hm hP hD hS (lv_sub hl [0, 1] rfl)
set_option maxHeartbeats 4000000 in
set_option maxRecDepth 100000 in
/-- a second -/
theorem cN_second (l : Launch) (dC : Nat → ClassId) (dI : Nat → Nat → Nat) (tt : Nat → Nat) (sz : Nat) (ad : Nat → Nat) (cA : Nat → ClassId) (Ac : UInt64) (gt lt : Int32) (ts : UInt64) (c0 : Nat) (hs : Nat → Int32) (ht : Nat → UInt64) (dc : Int32) (pa : Nat → UInt64) (ib : Nat → Int32) (u : SN) (hc32 : c0 ≤ 32) (hAc : ft_P Ac) (hok : okN hs ht c0 Ac u) : Ct l dC dI tt yN_second bN_second 15 none ({ frames := 1, cells := 0, slots := 0, locals := 28 }) (tN cA) [.ref (ad 0)] (wN ad cA u.1 u.2.2.2 Ac gt lt ts u.2.2.1 (nI c0) hs ht dc pa ib u.2.1) sz (fun A => ctQv dC dI (tN cA) (wR ad cA Ac gt lt ts c0 hs ht dc pa ib (secN hs ht c0 Ac u)) A) := by
  refine ct_of (by decide) (Nat.le_of_ble_eq_true rfl) ?_
  intro p e s m below meth c A ls hx hb hr hts hown hml hlocks hnm hA hS hP hK hD hT hl
  have hl : lv_has ls 15 [(0, .ref (ad 0))] := hl
  have keyK := kN_keyK (l := l) (e := e) (below := below) (gt := gt) (lt := lt) (ts := ts) (dc := dc) (pa := pa) (ib := ib) hc32 hAc hok ⟨hx, hb, hr, hts, hown, hml, hlocks, hA, hK, hT⟩
  refine lv_iconst (v := 0) hx hb dN_second_0 (by decide) ?_
  refine ct_topi (y := nI 0) (rfl) ?_
  refine lv_istore_n (lv' := [(1, .int (nI 0)), (0, .ref (ad 0))]) hx hb dN_second_1 rfl hl (by decide) rfl (fun ls hl => ?_)
  exact keyK c0 0 ls _ _ rfl rfl hP hD hS (lv_sub hl [0, 1] rfl)

