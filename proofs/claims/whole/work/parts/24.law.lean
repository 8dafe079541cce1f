/-! the law: its loop's cases -/
abbrev wL (ad : Nat → Nat) (cA : Nat → ClassId) (an : Nat → Nat) (cB : Nat → ClassId) (u : SS) (dv : Nat → Nat → UInt64) (ib hs : Nat → Int32) (ht : Nat → UInt64) (c0 kd : Nat) (Ac ts : UInt64) (g lt : Int32) (pa ac2 : Nat → UInt64) : va_W := (wM ad cA u.1 dv ib u.2.1 hs ht (nI c0) (nI u.2.2.1) u.2.2.2.1 u.2.2.2.2.1 (nI kd) u.2.2.2.2.2.1 u.2.2.2.2.2.2 Ac ts g lt) ++ (wN an cB u.1 u.2.2.2.2.2.2 Ac g lt ts u.2.2.2.2.2.1 (nI c0) hs ht (nI kd) pa ib ac2)
def LC (p : Program) (s : State) (m : MethodId) (meth : Method) (c : Code) (dC : Nat → ClassId) (dI : Nat → Nat → Nat) (tt : Nat → Nat) (b L : Nat) (xs : Nat → Int32) (cA cB : Nat → ClassId) : Prop :=
  p.tables.exec = Jvm.exec ∧ c.code = code ∧ meth.sig.returnType = ret ∧ c.maxLocals = 8 ∧ s.vm.findClass R_law = some m.cls ∧ (∀ w ∈ wT, w.before #[Value.ref b] s = true) ∧ va_X b L xs s s.heap ∧ b < s.heap.size ∧ meth.locks = false ∧ va_K (dC, dI) cls (tM cA ++ tN cB) s ∧ sT tt (fun q : Nat => s.heap.size ≤ q) s s.heap ∧ L ≤ 2048
def LW (p : Program) (l : Launch) (e : Env) (s : State) (m : MethodId) (below : List Frame) (meth : Method) (c : Code) (dC : Nat → ClassId) (dI : Nat → Nat → Nat) (b : Nat) (ad : Nat → Nat) (cA : Nat → ClassId) (an : Nat → Nat) (cB : Nat → ClassId) (pc i k : Nat) : Prop :=
  ∀ (u : SS) (dv : Nat → Nat → UInt64) (ib hs : Nat → Int32) (ht : Nat → UInt64) (c0 kd : Nat) (Ac ts : UInt64) (g lt : Int32) (pa ac2 : Nat → UInt64) (H : Heap) (locs : List Loc) (ls : Array Slot), JI k u dv ib hs ht c0 kd Ac ts pa → va_P (dC, dI) cls (wL ad cA an cB u dv ib hs ht c0 kd Ac ts g lt pa ac2) H → va_D (fun q : Nat => s.heap.size ≤ q) (wL ad cA an cB u dv ib hs ht c0 kd Ac ts g lt pa ac2) → va_S (fun q : Nat => s.heap.size ≤ q) s.heap H locs → lv_has ls 8 [(3, .int (nI i)), (2, .ref (an 0)), (1, .ref (ad 0)), (0, .ref b)] → W p l e room_1 s m #[Value.ref b] below meth c H locs 25 436 (lw_Z below #[Value.ref b] s) (F0 m pc ls [])
theorem J_c {c : Nat} {u : SS} {dv : Nat → Nat → UInt64} {ib hs : Nat → Int32} {ht : Nat → UInt64} {c0 kd : Nat} {A ts : UInt64} {pa : Nat → UInt64} (h : JI c u dv ib hs ht c0 kd A ts pa) : kd ≤ 8 ∧ c0 ≤ 32 ∧ ft_P A ∧ FP.dcmp u.2.2.2.2.2.2 u.2.2.2.2.2.2 = some .eq ∧ FP.dcmp (u.1 0) (u.1 0) = some .eq := by
  obtain ⟨b, n, j1, j2, j3, j4, j5, j6, j7, j8, j9, j10, j11, j12, j13, -⟩ := h
  exact ⟨j12, j13, j10, FP.Core.dcmp_self j8.fin.ne_nan, FP.Core.dcmp_self (j4 0 (by decide)).1.fin.ne_nan⟩
theorem dadd_self {b n : Nat} {a : Nat → UInt64} (hG : GB (bd b n) a) (hb : b ≤ 2 ^ 32) (hn : n + 1 ≤ 2 ^ 20) : FP.dcmp (FP.dadd (a 1) (a 2)) (FP.dadd (a 1) (a 2)) = some .eq := by
  obtain ⟨x1, x2⟩ := hG 1 (by decide)
  obtain ⟨y1, y2⟩ := hG 2 (by decide)
  have e1 : bd b n 1 = b := rfl
  have e2 : bd b n 2 = (n + 1) * b := rfl
  rw [e1] at x2
  rw [e2] at y2
  have h3 : (n + 1 + 1) * b = (n + 1) * b + b := by rw [Nat.add_mul (n + 1), Nat.one_mul]
  obtain ⟨s1, s2, -⟩ := ft_add x1 y1 (n := (n + 1 + 1) * b * FP.Core.one64) (by have := bd_R (b := b) (n := n + 1) (e := 0) hb hn (by decide); rwa [Nat.pow_zero, Nat.mul_one] at this) (by rw [h3, Nat.add_mul]; omega)
  exact FP.Core.dcmp_self s1.fin.ne_nan
theorem J_s {c : Nat} {u : SS} {dv : Nat → Nat → UInt64} {ib hs : Nat → Int32} {ht : Nat → UInt64} {c0 kd : Nat} {A ts : UInt64} {pa : Nat → UInt64} (h : JI c u dv ib hs ht c0 kd A ts pa) (hc : c ≤ 511) : FP.dcmp (FP.dadd (u.1 1) (u.1 2)) (FP.dadd (u.1 1) (u.1 2)) = some .eq := by
  obtain ⟨b, n, j1, j2, j3, j4, j5, j6, -⟩ := h
  exact dadd_self j4 (by have := b_31 j1 (by omega); omega) (by omega)
section LX
variable {p : Program} {l : Launch} {e : Env} {s : State} {m : MethodId} {below : List Frame} {meth : Method} {c : Code} {dC : Nat → ClassId} {dI : Nat → Nat → Nat} {tt : Nat → Nat} {b L : Nat} {xs : Nat → Int32} {ad : Nat → Nat} {cA : Nat → ClassId} {an : Nat → Nat} {cB : Nat → ClassId}

set_option maxHeartbeats 4000000 in
set_option maxRecDepth 100000 in
theorem lc_grain (C1 : LC p s m meth c dC dI tt b L xs cA cB) {k : Nat} (h4 : 4 * k + 4 ≤ L) (next : LW p l e s m below meth c dC dI b ad cA an cB 659 (4 * k) (k + 1)) : LW p l e s m below meth c dC dI b ad cA an cB 100 (4 * k) k := by
  obtain ⟨hx, hb, hr, hml, hown, hts, hX, hbl, hlocks, hK, hT, hL⟩ := C1
  have hA : ∀ q : Nat, s.heap.size ≤ q → (fun q : Nat => s.heap.size ≤ q) q := fun _ h => h
  have hbA : ¬ (fun q : Nat => s.heap.size ≤ q) b := Nat.not_le.mpr hbl
  intro u dv ib hs ht c0 kd Ac ts g lt pa ac2 H locs ls HJ hP hD hS hl
  have hk : k ≤ 511 := by omega
  obtain ⟨hkd, hc32, hAc, hTT, hWW⟩ := J_c HJ
  obtain ⟨x1, ex1⟩ : ∃ y : Int32, y = xs (4 * k + 1) := ⟨_, rfl⟩
  obtain ⟨x2, ex2⟩ : ∃ y : Int32, y = xs (4 * k + 2) := ⟨_, rfl⟩
  obtain ⟨x3, ex3⟩ : ∃ y : Int32, y = xs (4 * k + 3) := ⟨_, rfl⟩
  refine lv_aload_n hx hb dL_law_100 rfl (lv_at hl 2 rfl) ?_
  refine lv_aload_n hx hb dL_law_101 rfl (lv_at hl 3 rfl) ?_
  refine lv_iload_n hx hb dL_law_102 rfl (lv_at hl 0 rfl) ?_
  refine lv_iconst (v := 1) hx hb dL_law_103 (by decide) ?_
  refine lv_iadd hx hb dL_law_104 ?_
  refine ct_topi (y := nI (4 * k + 1)) (nI_add (4 * k) 1) ?_
  refine va_sld hx hb hX hbl hbA hS (vp_in_nI (by omega) (by omega)) dL_law_105 ?_
  refine ct_topi (y := x1) (by rw [nI_clamp (by omega)]; exact ex1.symm) ?_
  refine lv_i2d hx hb dL_law_106 ?_
  refine lv_ldc2d hx hb hown (hts _ tw_d_L_13) dL_law_107 ?_
  refine lv_dmul hx hb dL_law_110 (ag_vf x1) ?_
  refine ct_topd (y := ag x1) (rfl) ?_
  refine lv_aload_n hx hb dL_law_111 rfl (lv_at hl 3 rfl) ?_
  refine lv_iload_n hx hb dL_law_112 rfl (lv_at hl 0 rfl) ?_
  refine lv_iconst (v := 2) hx hb dL_law_113 (by decide) ?_
  refine lv_iadd hx hb dL_law_114 ?_
  refine ct_topi (y := nI (4 * k + 2)) (nI_add (4 * k) 2) ?_
  refine va_sld hx hb hX hbl hbA hS (vp_in_nI (by omega) (by omega)) dL_law_115 ?_
  refine ct_topi (y := x2) (by rw [nI_clamp (by omega)]; exact ex2.symm) ?_
  refine lv_i2d hx hb dL_law_116 ?_
  refine lv_ldc2d hx hb hown (hts _ tw_d_L_13) dL_law_117 ?_
  refine lv_dmul hx hb dL_law_120 (ag_vf x2) ?_
  refine ct_topd (y := ag x2) (rfl) ?_
  refine lv_aload_n hx hb dL_law_121 rfl (lv_at hl 3 rfl) ?_
  refine lv_iload_n hx hb dL_law_122 rfl (lv_at hl 0 rfl) ?_
  refine lv_iconst (v := 3) hx hb dL_law_123 (by decide) ?_
  refine lv_iadd hx hb dL_law_124 ?_
  refine ct_topi (y := nI (4 * k + 3)) (nI_add (4 * k) 3) ?_
  refine va_sld hx hb hX hbl hbA hS (vp_in_nI (by omega) (by omega)) dL_law_125 ?_
  refine ct_topi (y := x3) (by rw [nI_clamp (by omega)]; exact ex3.symm) ?_
  refine ct_cvc (As := [.double (ag x1), .double (ag x2), .int x3]) (rest := []) (wr := (wN an cB u.1 u.2.2.2.2.2.2 Ac g lt ts u.2.2.2.2.2.1 (nI c0) hs ht (nI kd) pa ib ac2)) (w1 := (wM ad cA (grA (ag x1) (ag x2) x3.toNatClampNeg u.1) dv ib u.2.1 hs ht (nI c0) (nI u.2.2.1) u.2.2.2.1 u.2.2.2.2.1 (nI kd) u.2.2.2.2.2.1 u.2.2.2.2.2.2 Ac (FP.dadd ts (FP.dmul (ag x1) (ag x2))) 1 lt)) (w0 := (wM ad cA u.1 dv ib u.2.1 hs ht (nI c0) (nI u.2.2.1) u.2.2.2.1 u.2.2.2.2.1 (nI kd) u.2.2.2.2.2.1 u.2.2.2.2.2.2 Ac ts g lt)) ⟨hx, hb, hml, hown, hts⟩ (cM_grain l dC dI tt _ ad cA u.1 dv ib u.2.1 hs ht (nI c0) (nI u.2.2.1) u.2.2.2.1 u.2.2.2.2.1 (nI kd) u.2.2.2.2.2.1 u.2.2.2.2.2.2 Ac ts g lt (ag x1) (ag x2) x3 (ag_no x1) (ag_no x2) (fun h => (J_grain HJ hk x1 x2 x3 h).1)) (gT_V tw_m_L_15 tw_i_yM_grain tw_s_yM_grain tw_I_M tw_c_yM_grain) ⟨rfl, by decide +kernel, by decide +kernel, (by decide +kernel : (parseMethodDescriptor yM_grain.desc).map (fun d => d.parameters.length) = some 3)⟩ ⟨Nat.le_of_ble_eq_true rfl, Nat.le_of_ble_eq_true rfl⟩ (ci := 0) rfl rfl rfl hP hD hK hS hA hT [0, 1, 2, 3, 4, 5, 6, 7, 8, 9, 10, 11, 12, 13, 14, 15, 16, 17] [18, 19, 20, 21, 22, 23, 24] [0, 1, 2, 3, 4, 5, 6, 7] (by decide) rfl rfl (by decide) (by decide) rfl hl.1 rfl (Nat.le_of_ble_eq_true rfl) dL_law_126 ⟨Nat.le_of_ble_eq_true rfl, Nat.le_of_ble_eq_true rfl⟩ (fun c1 H locs hP hD hS => ?_) (fun c1 H locs hP hD hS => ?_)
  · have hP := hP.sub (ws' := (wM ad cA (grA (ag x1) (ag x2) x3.toNatClampNeg u.1) dv ib u.2.1 hs ht (nI c0) (nI u.2.2.1) u.2.2.2.1 u.2.2.2.2.1 (nI kd) u.2.2.2.2.2.1 u.2.2.2.2.2.2 Ac (FP.dadd ts (FP.dmul (ag x1) (ag x2))) 1 lt) ++ (wN an cB u.1 u.2.2.2.2.2.2 Ac g lt ts u.2.2.2.2.2.1 (nI c0) hs ht (nI kd) pa ib ac2)) [7, 8, 9, 10, 11, 12, 13, 14, 15, 16, 17, 18, 19, 20, 21, 22, 23, 24, 0, 1, 2, 3, 4, 5, 6] rfl
    have hD := hD.sub (ws' := (wM ad cA (grA (ag x1) (ag x2) x3.toNatClampNeg u.1) dv ib u.2.1 hs ht (nI c0) (nI u.2.2.1) u.2.2.2.1 u.2.2.2.2.1 (nI kd) u.2.2.2.2.2.1 u.2.2.2.2.2.2 Ac (FP.dadd ts (FP.dmul (ag x1) (ag x2))) 1 lt) ++ (wN an cB u.1 u.2.2.2.2.2.2 Ac g lt ts u.2.2.2.2.2.1 (nI c0) hs ht (nI kd) pa ib ac2)) [7, 8, 9, 10, 11, 12, 13, 14, 15, 16, 17, 18, 19, 20, 21, 22, 23, 24, 0, 1, 2, 3, 4, 5, 6] (by decide) rfl
    refine lv_aload_n hx hb dL_law_129 rfl (lv_at hl 1 rfl) ?_
    refine lv_aload_n hx hb dL_law_130 rfl (lv_at hl 3 rfl) ?_
    refine lv_iload_n hx hb dL_law_131 rfl (lv_at hl 0 rfl) ?_
    refine lv_iconst (v := 1) hx hb dL_law_132 (by decide) ?_
    refine lv_iadd hx hb dL_law_133 ?_
    refine ct_topi (y := nI (4 * k + 1)) (nI_add (4 * k) 1) ?_
    refine va_sld hx hb hX hbl hbA hS (vp_in_nI (by omega) (by omega)) dL_law_134 ?_
    refine ct_topi (y := x1) (by rw [nI_clamp (by omega)]; exact ex1.symm) ?_
    refine lv_i2d hx hb dL_law_135 ?_
    refine lv_ldc2d hx hb hown (hts _ tw_d_L_13) dL_law_136 ?_
    refine lv_dmul hx hb dL_law_139 (ag_vf x1) ?_
    refine ct_topd (y := ag x1) (rfl) ?_
    refine lv_aload_n hx hb dL_law_140 rfl (lv_at hl 3 rfl) ?_
    refine lv_iload_n hx hb dL_law_141 rfl (lv_at hl 0 rfl) ?_
    refine lv_iconst (v := 2) hx hb dL_law_142 (by decide) ?_
    refine lv_iadd hx hb dL_law_143 ?_
    refine ct_topi (y := nI (4 * k + 2)) (nI_add (4 * k) 2) ?_
    refine va_sld hx hb hX hbl hbA hS (vp_in_nI (by omega) (by omega)) dL_law_144 ?_
    refine ct_topi (y := x2) (by rw [nI_clamp (by omega)]; exact ex2.symm) ?_
    refine lv_i2d hx hb dL_law_145 ?_
    refine lv_ldc2d hx hb hown (hts _ tw_d_L_13) dL_law_146 ?_
    refine lv_dmul hx hb dL_law_149 (ag_vf x2) ?_
    refine ct_topd (y := ag x2) (rfl) ?_
    refine lv_aload_n hx hb dL_law_150 rfl (lv_at hl 3 rfl) ?_
    refine lv_iload_n hx hb dL_law_151 rfl (lv_at hl 0 rfl) ?_
    refine lv_iconst (v := 3) hx hb dL_law_152 (by decide) ?_
    refine lv_iadd hx hb dL_law_153 ?_
    refine ct_topi (y := nI (4 * k + 3)) (nI_add (4 * k) 3) ?_
    refine va_sld hx hb hX hbl hbA hS (vp_in_nI (by omega) (by omega)) dL_law_154 ?_
    refine ct_topi (y := x3) (by rw [nI_clamp (by omega)]; exact ex3.symm) ?_
    refine ct_cvc (As := [.double (ag x1), .double (ag x2), .int x3]) (rest := [.int 1]) (wr := (wM ad cA (grA (ag x1) (ag x2) x3.toNatClampNeg u.1) dv ib u.2.1 hs ht (nI c0) (nI u.2.2.1) u.2.2.2.1 u.2.2.2.2.1 (nI kd) u.2.2.2.2.2.1 u.2.2.2.2.2.2 Ac (FP.dadd ts (FP.dmul (ag x1) (ag x2))) 1 lt)) (w1 := (wN an cB (grA (ag x1) (ag x2) x3.toNatClampNeg u.1) u.2.2.2.2.2.2 Ac 1 lt (FP.dadd ts (FP.dmul (ag x1) (ag x2))) u.2.2.2.2.2.1 (nI c0) hs ht (nI kd) pa ib ac2)) (w0 := (wN an cB u.1 u.2.2.2.2.2.2 Ac g lt ts u.2.2.2.2.2.1 (nI c0) hs ht (nI kd) pa ib ac2)) ⟨hx, hb, hml, hown, hts⟩ (cN_grain l dC dI tt _ an cB u.1 u.2.2.2.2.2.2 Ac g lt ts u.2.2.2.2.2.1 (nI c0) hs ht (nI kd) pa ib ac2 (ag x1) (ag x2) x3 (ag_no x2) (fun h => (J_grain HJ hk x1 x2 x3 h).1) (fun _ => J_raw HJ x1)) (gT_V tw_m_L_19 tw_i_yN_grain tw_s_yN_grain tw_I_N tw_c_yN_grain) ⟨rfl, by decide +kernel, by decide +kernel, (by decide +kernel : (parseMethodDescriptor yN_grain.desc).map (fun d => d.parameters.length) = some 3)⟩ ⟨Nat.le_of_ble_eq_true rfl, Nat.le_of_ble_eq_true rfl⟩ (ci := 3) rfl rfl rfl hP hD hK hS hA hT [18, 19, 20, 21, 22, 23, 24] [0, 1, 2, 3, 4, 5, 6, 7, 8, 9, 10, 11, 12, 13, 14, 15, 16, 17] [8, 9, 10, 11, 12, 13] (by decide) rfl rfl (by decide) (by decide) rfl hl.1 rfl (Nat.le_of_ble_eq_true rfl) dL_law_155 ⟨Nat.le_of_ble_eq_true rfl, Nat.le_of_ble_eq_true rfl⟩ (fun c2 H locs hP hD hS => ?_) (fun c2 H locs hP hD hS => ?_)
    · have hP : va_P (dC, dI) cls ((wM ad cA (grA (ag x1) (ag x2) x3.toNatClampNeg u.1) dv ib u.2.1 hs ht (nI c0) (nI u.2.2.1) u.2.2.2.1 u.2.2.2.2.1 (nI kd) u.2.2.2.2.2.1 u.2.2.2.2.2.2 Ac (FP.dadd ts (FP.dmul (ag x1) (ag x2))) 1 lt) ++ (wN an cB (grA (ag x1) (ag x2) x3.toNatClampNeg u.1) u.2.2.2.2.2.2 Ac 1 lt (FP.dadd ts (FP.dmul (ag x1) (ag x2))) u.2.2.2.2.2.1 (nI c0) hs ht (nI kd) pa ib ac2)) H := hP
      have hD : va_D _ ((wM ad cA (grA (ag x1) (ag x2) x3.toNatClampNeg u.1) dv ib u.2.1 hs ht (nI c0) (nI u.2.2.1) u.2.2.2.1 u.2.2.2.2.1 (nI kd) u.2.2.2.2.2.1 u.2.2.2.2.2.2 Ac (FP.dadd ts (FP.dmul (ag x1) (ag x2))) 1 lt) ++ (wN an cB (grA (ag x1) (ag x2) x3.toNatClampNeg u.1) u.2.2.2.2.2.2 Ac 1 lt (FP.dadd ts (FP.dmul (ag x1) (ag x2))) u.2.2.2.2.2.1 (nI c0) hs ht (nI kd) pa ib ac2)) := hD
      refine lv_icmp_eq (tgt := 659) hx hb dL_law_158 (by decide) (fun c3 => ?_) (fun c3 => ?_)
      · exact next (grA (ag x1) (ag x2) x3.toNatClampNeg u.1, u.2) dv ib hs ht c0 kd Ac (FP.dadd ts (FP.dmul (ag x1) (ag x2))) 1 lt pa ac2 _ _ _ ((J_grain HJ hk x1 x2 x3 c1).2) hP hD hS (lv_sub hl [0, 1, 2, 3] rfl)
      · exact absurd rfl c3
    · exact absurd c1 c2
  · have hP := hP.sub (ws' := (wM ad cA u.1 dv ib u.2.1 hs ht (nI c0) (nI u.2.2.1) u.2.2.2.1 u.2.2.2.2.1 (nI kd) u.2.2.2.2.2.1 u.2.2.2.2.2.2 Ac ts g lt) ++ (wN an cB u.1 u.2.2.2.2.2.2 Ac g lt ts u.2.2.2.2.2.1 (nI c0) hs ht (nI kd) pa ib ac2)) [7, 8, 9, 10, 11, 12, 13, 14, 15, 16, 17, 18, 19, 20, 21, 22, 23, 24, 0, 1, 2, 3, 4, 5, 6] rfl
    have hD := hD.sub (ws' := (wM ad cA u.1 dv ib u.2.1 hs ht (nI c0) (nI u.2.2.1) u.2.2.2.1 u.2.2.2.2.1 (nI kd) u.2.2.2.2.2.1 u.2.2.2.2.2.2 Ac ts g lt) ++ (wN an cB u.1 u.2.2.2.2.2.2 Ac g lt ts u.2.2.2.2.2.1 (nI c0) hs ht (nI kd) pa ib ac2)) [7, 8, 9, 10, 11, 12, 13, 14, 15, 16, 17, 18, 19, 20, 21, 22, 23, 24, 0, 1, 2, 3, 4, 5, 6] (by decide) rfl
    refine lv_aload_n hx hb dL_law_129 rfl (lv_at hl 1 rfl) ?_
    refine lv_aload_n hx hb dL_law_130 rfl (lv_at hl 3 rfl) ?_
    refine lv_iload_n hx hb dL_law_131 rfl (lv_at hl 0 rfl) ?_
    refine lv_iconst (v := 1) hx hb dL_law_132 (by decide) ?_
    refine lv_iadd hx hb dL_law_133 ?_
    refine ct_topi (y := nI (4 * k + 1)) (nI_add (4 * k) 1) ?_
    refine va_sld hx hb hX hbl hbA hS (vp_in_nI (by omega) (by omega)) dL_law_134 ?_
    refine ct_topi (y := x1) (by rw [nI_clamp (by omega)]; exact ex1.symm) ?_
    refine lv_i2d hx hb dL_law_135 ?_
    refine lv_ldc2d hx hb hown (hts _ tw_d_L_13) dL_law_136 ?_
    refine lv_dmul hx hb dL_law_139 (ag_vf x1) ?_
    refine ct_topd (y := ag x1) (rfl) ?_
    refine lv_aload_n hx hb dL_law_140 rfl (lv_at hl 3 rfl) ?_
    refine lv_iload_n hx hb dL_law_141 rfl (lv_at hl 0 rfl) ?_
    refine lv_iconst (v := 2) hx hb dL_law_142 (by decide) ?_
    refine lv_iadd hx hb dL_law_143 ?_
    refine ct_topi (y := nI (4 * k + 2)) (nI_add (4 * k) 2) ?_
    refine va_sld hx hb hX hbl hbA hS (vp_in_nI (by omega) (by omega)) dL_law_144 ?_
    refine ct_topi (y := x2) (by rw [nI_clamp (by omega)]; exact ex2.symm) ?_
    refine lv_i2d hx hb dL_law_145 ?_
    refine lv_ldc2d hx hb hown (hts _ tw_d_L_13) dL_law_146 ?_
    refine lv_dmul hx hb dL_law_149 (ag_vf x2) ?_
    refine ct_topd (y := ag x2) (rfl) ?_
    refine lv_aload_n hx hb dL_law_150 rfl (lv_at hl 3 rfl) ?_
    refine lv_iload_n hx hb dL_law_151 rfl (lv_at hl 0 rfl) ?_
    refine lv_iconst (v := 3) hx hb dL_law_152 (by decide) ?_
    refine lv_iadd hx hb dL_law_153 ?_
    refine ct_topi (y := nI (4 * k + 3)) (nI_add (4 * k) 3) ?_
    refine va_sld hx hb hX hbl hbA hS (vp_in_nI (by omega) (by omega)) dL_law_154 ?_
    refine ct_topi (y := x3) (by rw [nI_clamp (by omega)]; exact ex3.symm) ?_
    refine ct_cvc (As := [.double (ag x1), .double (ag x2), .int x3]) (rest := [.int 0]) (wr := (wM ad cA u.1 dv ib u.2.1 hs ht (nI c0) (nI u.2.2.1) u.2.2.2.1 u.2.2.2.2.1 (nI kd) u.2.2.2.2.2.1 u.2.2.2.2.2.2 Ac ts g lt)) (w1 := (wN an cB (grA (ag x1) (ag x2) x3.toNatClampNeg u.1) u.2.2.2.2.2.2 Ac 1 lt (FP.dadd ts (FP.dmul (ag x1) (ag x2))) u.2.2.2.2.2.1 (nI c0) hs ht (nI kd) pa ib ac2)) (w0 := (wN an cB u.1 u.2.2.2.2.2.2 Ac g lt ts u.2.2.2.2.2.1 (nI c0) hs ht (nI kd) pa ib ac2)) ⟨hx, hb, hml, hown, hts⟩ (cN_grain l dC dI tt _ an cB u.1 u.2.2.2.2.2.2 Ac g lt ts u.2.2.2.2.2.1 (nI c0) hs ht (nI kd) pa ib ac2 (ag x1) (ag x2) x3 (ag_no x2) (fun h => (J_grain HJ hk x1 x2 x3 h).1) (fun _ => J_raw HJ x1)) (gT_V tw_m_L_19 tw_i_yN_grain tw_s_yN_grain tw_I_N tw_c_yN_grain) ⟨rfl, by decide +kernel, by decide +kernel, (by decide +kernel : (parseMethodDescriptor yN_grain.desc).map (fun d => d.parameters.length) = some 3)⟩ ⟨Nat.le_of_ble_eq_true rfl, Nat.le_of_ble_eq_true rfl⟩ (ci := 3) rfl rfl rfl hP hD hK hS hA hT [18, 19, 20, 21, 22, 23, 24] [0, 1, 2, 3, 4, 5, 6, 7, 8, 9, 10, 11, 12, 13, 14, 15, 16, 17] [8, 9, 10, 11, 12, 13] (by decide) rfl rfl (by decide) (by decide) rfl hl.1 rfl (Nat.le_of_ble_eq_true rfl) dL_law_155 ⟨Nat.le_of_ble_eq_true rfl, Nat.le_of_ble_eq_true rfl⟩ (fun c2 H locs hP hD hS => ?_) (fun c2 H locs hP hD hS => ?_)
    · exact absurd c2 c1
    · have hP : va_P (dC, dI) cls ((wM ad cA u.1 dv ib u.2.1 hs ht (nI c0) (nI u.2.2.1) u.2.2.2.1 u.2.2.2.2.1 (nI kd) u.2.2.2.2.2.1 u.2.2.2.2.2.2 Ac ts g lt) ++ (wN an cB u.1 u.2.2.2.2.2.2 Ac g lt ts u.2.2.2.2.2.1 (nI c0) hs ht (nI kd) pa ib ac2)) H := hP
      have hD : va_D _ ((wM ad cA u.1 dv ib u.2.1 hs ht (nI c0) (nI u.2.2.1) u.2.2.2.1 u.2.2.2.2.1 (nI kd) u.2.2.2.2.2.1 u.2.2.2.2.2.2 Ac ts g lt) ++ (wN an cB u.1 u.2.2.2.2.2.2 Ac g lt ts u.2.2.2.2.2.1 (nI c0) hs ht (nI kd) pa ib ac2)) := hD
      refine lv_icmp_eq (tgt := 659) hx hb dL_law_158 (by decide) (fun c3 => ?_) (fun c3 => ?_)
      · exact next u dv ib hs ht c0 kd Ac ts g lt pa ac2 _ _ _ (JI.next HJ) hP hD hS (lv_sub hl [0, 1, 2, 3] rfl)
      · exact absurd rfl c3

set_option maxHeartbeats 4000000 in
set_option maxRecDepth 100000 in
theorem lc_liquor (C1 : LC p s m meth c dC dI tt b L xs cA cB) {k : Nat} (h4 : 4 * k + 4 ≤ L) (next : LW p l e s m below meth c dC dI b ad cA an cB 659 (4 * k) (k + 1)) : LW p l e s m below meth c dC dI b ad cA an cB 163 (4 * k) k := by
  obtain ⟨hx, hb, hr, hml, hown, hts, hX, hbl, hlocks, hK, hT, hL⟩ := C1
  have hA : ∀ q : Nat, s.heap.size ≤ q → (fun q : Nat => s.heap.size ≤ q) q := fun _ h => h
  have hbA : ¬ (fun q : Nat => s.heap.size ≤ q) b := Nat.not_le.mpr hbl
  intro u dv ib hs ht c0 kd Ac ts g lt pa ac2 H locs ls HJ hP hD hS hl
  have hk : k ≤ 511 := by omega
  obtain ⟨hkd, hc32, hAc, hTT, hWW⟩ := J_c HJ
  obtain ⟨x1, ex1⟩ : ∃ y : Int32, y = xs (4 * k + 1) := ⟨_, rfl⟩
  obtain ⟨x2, ex2⟩ : ∃ y : Int32, y = xs (4 * k + 2) := ⟨_, rfl⟩
  obtain ⟨x3, ex3⟩ : ∃ y : Int32, y = xs (4 * k + 3) := ⟨_, rfl⟩
  refine lv_aload_n hx hb dL_law_163 rfl (lv_at hl 2 rfl) ?_
  refine lv_aload_n hx hb dL_law_164 rfl (lv_at hl 3 rfl) ?_
  refine lv_iload_n hx hb dL_law_165 rfl (lv_at hl 0 rfl) ?_
  refine lv_iconst (v := 1) hx hb dL_law_166 (by decide) ?_
  refine lv_iadd hx hb dL_law_167 ?_
  refine ct_topi (y := nI (4 * k + 1)) (nI_add (4 * k) 1) ?_
  refine va_sld hx hb hX hbl hbA hS (vp_in_nI (by omega) (by omega)) dL_law_168 ?_
  refine ct_topi (y := x1) (by rw [nI_clamp (by omega)]; exact ex1.symm) ?_
  refine lv_i2d hx hb dL_law_169 ?_
  refine lv_ldc2d hx hb hown (hts _ tw_d_L_13) dL_law_170 ?_
  refine lv_dmul hx hb dL_law_173 (ag_vf x1) ?_
  refine ct_topd (y := ag x1) (rfl) ?_
  refine lv_aload_n hx hb dL_law_174 rfl (lv_at hl 3 rfl) ?_
  refine lv_iload_n hx hb dL_law_175 rfl (lv_at hl 0 rfl) ?_
  refine lv_iconst (v := 2) hx hb dL_law_176 (by decide) ?_
  refine lv_iadd hx hb dL_law_177 ?_
  refine ct_topi (y := nI (4 * k + 2)) (nI_add (4 * k) 2) ?_
  refine va_sld hx hb hX hbl hbA hS (vp_in_nI (by omega) (by omega)) dL_law_178 ?_
  refine ct_topi (y := x2) (by rw [nI_clamp (by omega)]; exact ex2.symm) ?_
  refine lv_i2d hx hb dL_law_179 ?_
  refine lv_ldc2d hx hb hown (hts _ tw_d_L_13) dL_law_180 ?_
  refine lv_dmul hx hb dL_law_183 (ag_vf x2) ?_
  refine ct_topd (y := ag x2) (rfl) ?_
  refine lv_aload_n hx hb dL_law_184 rfl (lv_at hl 3 rfl) ?_
  refine lv_iload_n hx hb dL_law_185 rfl (lv_at hl 0 rfl) ?_
  refine lv_iconst (v := 3) hx hb dL_law_186 (by decide) ?_
  refine lv_iadd hx hb dL_law_187 ?_
  refine ct_topi (y := nI (4 * k + 3)) (nI_add (4 * k) 3) ?_
  refine va_sld hx hb hX hbl hbA hS (vp_in_nI (by omega) (by omega)) dL_law_188 ?_
  refine ct_topi (y := x3) (by rw [nI_clamp (by omega)]; exact ex3.symm) ?_
  refine lv_i2d hx hb dL_law_189 ?_
  refine lv_ldc2d hx hb hown (hts _ tw_d_L_13) dL_law_190 ?_
  refine lv_dmul hx hb dL_law_193 (ag_vf x3) ?_
  refine ct_topd (y := ag x3) (rfl) ?_
  refine ct_cvc (As := [.double (ag x1), .double (ag x2), .double (ag x3)]) (rest := []) (wr := (wN an cB u.1 u.2.2.2.2.2.2 Ac g lt ts u.2.2.2.2.2.1 (nI c0) hs ht (nI kd) pa ib ac2)) (w1 := (wM ad cA (vf_upd u.1 0 (FP.dadd (u.1 0) (ag x1))) dv ib u.2.1 hs ht (nI c0) (nI u.2.2.1) u.2.2.2.1 u.2.2.2.2.1 (nI kd) u.2.2.2.2.2.1 (mixD u.2.2.2.2.2.2 (u.1 0) (ag x2) (ag x1)) (mixD Ac (u.1 0) (ag x3) (ag x1)) ts g 1)) (w0 := (wM ad cA u.1 dv ib u.2.1 hs ht (nI c0) (nI u.2.2.1) u.2.2.2.1 u.2.2.2.2.1 (nI kd) u.2.2.2.2.2.1 u.2.2.2.2.2.2 Ac ts g lt)) ⟨hx, hb, hml, hown, hts⟩ (cM_liquor l dC dI tt _ ad cA u.1 dv ib u.2.1 hs ht (nI c0) (nI u.2.2.1) u.2.2.2.1 u.2.2.2.2.1 (nI kd) u.2.2.2.2.2.1 u.2.2.2.2.2.2 Ac ts g lt (ag x1) (ag x2) (ag x3) (ag_no x1) (ag_no x3) (fun h => (J_liquor HJ hk x1 x2 x3 h).1)) (gT_V tw_m_L_20 tw_i_yM_liquor tw_s_yM_liquor tw_I_M tw_c_yM_liquor) ⟨rfl, by decide +kernel, by decide +kernel, (by decide +kernel : (parseMethodDescriptor yM_liquor.desc).map (fun d => d.parameters.length) = some 3)⟩ ⟨Nat.le_of_ble_eq_true rfl, Nat.le_of_ble_eq_true rfl⟩ (ci := 0) rfl rfl rfl hP hD hK hS hA hT [0, 1, 2, 3, 4, 5, 6, 7, 8, 9, 10, 11, 12, 13, 14, 15, 16, 17] [18, 19, 20, 21, 22, 23, 24] [0, 1, 2, 3, 4, 5, 6, 7] (by decide) rfl rfl (by decide) (by decide) rfl hl.1 rfl (Nat.le_of_ble_eq_true rfl) dL_law_194 ⟨Nat.le_of_ble_eq_true rfl, Nat.le_of_ble_eq_true rfl⟩ (fun c1 H locs hP hD hS => ?_) (fun c1 H locs hP hD hS => ?_)
  · have hP := hP.sub (ws' := (wM ad cA (vf_upd u.1 0 (FP.dadd (u.1 0) (ag x1))) dv ib u.2.1 hs ht (nI c0) (nI u.2.2.1) u.2.2.2.1 u.2.2.2.2.1 (nI kd) u.2.2.2.2.2.1 (mixD u.2.2.2.2.2.2 (u.1 0) (ag x2) (ag x1)) (mixD Ac (u.1 0) (ag x3) (ag x1)) ts g 1) ++ (wN an cB u.1 u.2.2.2.2.2.2 Ac g lt ts u.2.2.2.2.2.1 (nI c0) hs ht (nI kd) pa ib ac2)) [7, 8, 9, 10, 11, 12, 13, 14, 15, 16, 17, 18, 19, 20, 21, 22, 23, 24, 0, 1, 2, 3, 4, 5, 6] rfl
    have hD := hD.sub (ws' := (wM ad cA (vf_upd u.1 0 (FP.dadd (u.1 0) (ag x1))) dv ib u.2.1 hs ht (nI c0) (nI u.2.2.1) u.2.2.2.1 u.2.2.2.2.1 (nI kd) u.2.2.2.2.2.1 (mixD u.2.2.2.2.2.2 (u.1 0) (ag x2) (ag x1)) (mixD Ac (u.1 0) (ag x3) (ag x1)) ts g 1) ++ (wN an cB u.1 u.2.2.2.2.2.2 Ac g lt ts u.2.2.2.2.2.1 (nI c0) hs ht (nI kd) pa ib ac2)) [7, 8, 9, 10, 11, 12, 13, 14, 15, 16, 17, 18, 19, 20, 21, 22, 23, 24, 0, 1, 2, 3, 4, 5, 6] (by decide) rfl
    refine lv_aload_n hx hb dL_law_197 rfl (lv_at hl 1 rfl) ?_
    refine lv_aload_n hx hb dL_law_198 rfl (lv_at hl 3 rfl) ?_
    refine lv_iload_n hx hb dL_law_199 rfl (lv_at hl 0 rfl) ?_
    refine lv_iconst (v := 1) hx hb dL_law_200 (by decide) ?_
    refine lv_iadd hx hb dL_law_201 ?_
    refine ct_topi (y := nI (4 * k + 1)) (nI_add (4 * k) 1) ?_
    refine va_sld hx hb hX hbl hbA hS (vp_in_nI (by omega) (by omega)) dL_law_202 ?_
    refine ct_topi (y := x1) (by rw [nI_clamp (by omega)]; exact ex1.symm) ?_
    refine lv_i2d hx hb dL_law_203 ?_
    refine lv_ldc2d hx hb hown (hts _ tw_d_L_13) dL_law_204 ?_
    refine lv_dmul hx hb dL_law_207 (ag_vf x1) ?_
    refine ct_topd (y := ag x1) (rfl) ?_
    refine lv_aload_n hx hb dL_law_208 rfl (lv_at hl 3 rfl) ?_
    refine lv_iload_n hx hb dL_law_209 rfl (lv_at hl 0 rfl) ?_
    refine lv_iconst (v := 2) hx hb dL_law_210 (by decide) ?_
    refine lv_iadd hx hb dL_law_211 ?_
    refine ct_topi (y := nI (4 * k + 2)) (nI_add (4 * k) 2) ?_
    refine va_sld hx hb hX hbl hbA hS (vp_in_nI (by omega) (by omega)) dL_law_212 ?_
    refine ct_topi (y := x2) (by rw [nI_clamp (by omega)]; exact ex2.symm) ?_
    refine lv_i2d hx hb dL_law_213 ?_
    refine lv_ldc2d hx hb hown (hts _ tw_d_L_13) dL_law_214 ?_
    refine lv_dmul hx hb dL_law_217 (ag_vf x2) ?_
    refine ct_topd (y := ag x2) (rfl) ?_
    refine lv_aload_n hx hb dL_law_218 rfl (lv_at hl 3 rfl) ?_
    refine lv_iload_n hx hb dL_law_219 rfl (lv_at hl 0 rfl) ?_
    refine lv_iconst (v := 3) hx hb dL_law_220 (by decide) ?_
    refine lv_iadd hx hb dL_law_221 ?_
    refine ct_topi (y := nI (4 * k + 3)) (nI_add (4 * k) 3) ?_
    refine va_sld hx hb hX hbl hbA hS (vp_in_nI (by omega) (by omega)) dL_law_222 ?_
    refine ct_topi (y := x3) (by rw [nI_clamp (by omega)]; exact ex3.symm) ?_
    refine lv_i2d hx hb dL_law_223 ?_
    refine lv_ldc2d hx hb hown (hts _ tw_d_L_13) dL_law_224 ?_
    refine lv_dmul hx hb dL_law_227 (ag_vf x3) ?_
    refine ct_topd (y := ag x3) (rfl) ?_
    refine ct_cvc (As := [.double (ag x1), .double (ag x2), .double (ag x3)]) (rest := [.int 1]) (wr := (wM ad cA (vf_upd u.1 0 (FP.dadd (u.1 0) (ag x1))) dv ib u.2.1 hs ht (nI c0) (nI u.2.2.1) u.2.2.2.1 u.2.2.2.2.1 (nI kd) u.2.2.2.2.2.1 (mixD u.2.2.2.2.2.2 (u.1 0) (ag x2) (ag x1)) (mixD Ac (u.1 0) (ag x3) (ag x1)) ts g 1)) (w1 := (wN an cB (vf_upd u.1 0 (FP.dadd (u.1 0) (ag x1))) (mixD u.2.2.2.2.2.2 (u.1 0) (ag x2) (ag x1)) (mixD Ac (u.1 0) (ag x3) (ag x1)) g 1 ts u.2.2.2.2.2.1 (nI c0) hs ht (nI kd) pa ib ac2)) (w0 := (wN an cB u.1 u.2.2.2.2.2.2 Ac g lt ts u.2.2.2.2.2.1 (nI c0) hs ht (nI kd) pa ib ac2)) ⟨hx, hb, hml, hown, hts⟩ (cN_liquor l dC dI tt _ an cB u.1 u.2.2.2.2.2.2 Ac g lt ts u.2.2.2.2.2.1 (nI c0) hs ht (nI kd) pa ib ac2 (ag x1) (ag x2) (ag x3) (ag_no x2) (ag_no x3) (fun h => (J_liquor HJ hk x1 x2 x3 h).1) (fun h => (J_liquor HJ hk x1 x2 x3 h).2.1)) (gT_V tw_m_L_24 tw_i_yN_liquor tw_s_yN_liquor tw_I_N tw_c_yN_liquor) ⟨rfl, by decide +kernel, by decide +kernel, (by decide +kernel : (parseMethodDescriptor yN_liquor.desc).map (fun d => d.parameters.length) = some 3)⟩ ⟨Nat.le_of_ble_eq_true rfl, Nat.le_of_ble_eq_true rfl⟩ (ci := 3) rfl rfl rfl hP hD hK hS hA hT [18, 19, 20, 21, 22, 23, 24] [0, 1, 2, 3, 4, 5, 6, 7, 8, 9, 10, 11, 12, 13, 14, 15, 16, 17] [8, 9, 10, 11, 12, 13] (by decide) rfl rfl (by decide) (by decide) rfl hl.1 rfl (Nat.le_of_ble_eq_true rfl) dL_law_228 ⟨Nat.le_of_ble_eq_true rfl, Nat.le_of_ble_eq_true rfl⟩ (fun c2 H locs hP hD hS => ?_) (fun c2 H locs hP hD hS => ?_)
    · have hP : va_P (dC, dI) cls ((wM ad cA (vf_upd u.1 0 (FP.dadd (u.1 0) (ag x1))) dv ib u.2.1 hs ht (nI c0) (nI u.2.2.1) u.2.2.2.1 u.2.2.2.2.1 (nI kd) u.2.2.2.2.2.1 (mixD u.2.2.2.2.2.2 (u.1 0) (ag x2) (ag x1)) (mixD Ac (u.1 0) (ag x3) (ag x1)) ts g 1) ++ (wN an cB (vf_upd u.1 0 (FP.dadd (u.1 0) (ag x1))) (mixD u.2.2.2.2.2.2 (u.1 0) (ag x2) (ag x1)) (mixD Ac (u.1 0) (ag x3) (ag x1)) g 1 ts u.2.2.2.2.2.1 (nI c0) hs ht (nI kd) pa ib ac2)) H := hP
      have hD : va_D _ ((wM ad cA (vf_upd u.1 0 (FP.dadd (u.1 0) (ag x1))) dv ib u.2.1 hs ht (nI c0) (nI u.2.2.1) u.2.2.2.1 u.2.2.2.2.1 (nI kd) u.2.2.2.2.2.1 (mixD u.2.2.2.2.2.2 (u.1 0) (ag x2) (ag x1)) (mixD Ac (u.1 0) (ag x3) (ag x1)) ts g 1) ++ (wN an cB (vf_upd u.1 0 (FP.dadd (u.1 0) (ag x1))) (mixD u.2.2.2.2.2.2 (u.1 0) (ag x2) (ag x1)) (mixD Ac (u.1 0) (ag x3) (ag x1)) g 1 ts u.2.2.2.2.2.1 (nI c0) hs ht (nI kd) pa ib ac2)) := hD
      refine lv_icmp_eq (tgt := 659) hx hb dL_law_231 (by decide) (fun c3 => ?_) (fun c3 => ?_)
      · exact next (vf_upd u.1 0 (FP.dadd (u.1 0) (ag x1)), u.2.1, u.2.2.1, u.2.2.2.1, u.2.2.2.2.1, u.2.2.2.2.2.1, mixD u.2.2.2.2.2.2 (u.1 0) (ag x2) (ag x1)) dv ib hs ht c0 kd (mixD Ac (u.1 0) (ag x3) (ag x1)) ts g 1 pa ac2 _ _ _ ((J_liquor HJ hk x1 x2 x3 c1).2.2) hP hD hS (lv_sub hl [0, 1, 2, 3] rfl)
      · exact absurd rfl c3
    · exact absurd c1 c2
  · have hP := hP.sub (ws' := (wM ad cA u.1 dv ib u.2.1 hs ht (nI c0) (nI u.2.2.1) u.2.2.2.1 u.2.2.2.2.1 (nI kd) u.2.2.2.2.2.1 u.2.2.2.2.2.2 Ac ts g lt) ++ (wN an cB u.1 u.2.2.2.2.2.2 Ac g lt ts u.2.2.2.2.2.1 (nI c0) hs ht (nI kd) pa ib ac2)) [7, 8, 9, 10, 11, 12, 13, 14, 15, 16, 17, 18, 19, 20, 21, 22, 23, 24, 0, 1, 2, 3, 4, 5, 6] rfl
    have hD := hD.sub (ws' := (wM ad cA u.1 dv ib u.2.1 hs ht (nI c0) (nI u.2.2.1) u.2.2.2.1 u.2.2.2.2.1 (nI kd) u.2.2.2.2.2.1 u.2.2.2.2.2.2 Ac ts g lt) ++ (wN an cB u.1 u.2.2.2.2.2.2 Ac g lt ts u.2.2.2.2.2.1 (nI c0) hs ht (nI kd) pa ib ac2)) [7, 8, 9, 10, 11, 12, 13, 14, 15, 16, 17, 18, 19, 20, 21, 22, 23, 24, 0, 1, 2, 3, 4, 5, 6] (by decide) rfl
    refine lv_aload_n hx hb dL_law_197 rfl (lv_at hl 1 rfl) ?_
    refine lv_aload_n hx hb dL_law_198 rfl (lv_at hl 3 rfl) ?_
    refine lv_iload_n hx hb dL_law_199 rfl (lv_at hl 0 rfl) ?_
    refine lv_iconst (v := 1) hx hb dL_law_200 (by decide) ?_
    refine lv_iadd hx hb dL_law_201 ?_
    refine ct_topi (y := nI (4 * k + 1)) (nI_add (4 * k) 1) ?_
    refine va_sld hx hb hX hbl hbA hS (vp_in_nI (by omega) (by omega)) dL_law_202 ?_
    refine ct_topi (y := x1) (by rw [nI_clamp (by omega)]; exact ex1.symm) ?_
    refine lv_i2d hx hb dL_law_203 ?_
    refine lv_ldc2d hx hb hown (hts _ tw_d_L_13) dL_law_204 ?_
    refine lv_dmul hx hb dL_law_207 (ag_vf x1) ?_
    refine ct_topd (y := ag x1) (rfl) ?_
    refine lv_aload_n hx hb dL_law_208 rfl (lv_at hl 3 rfl) ?_
    refine lv_iload_n hx hb dL_law_209 rfl (lv_at hl 0 rfl) ?_
    refine lv_iconst (v := 2) hx hb dL_law_210 (by decide) ?_
    refine lv_iadd hx hb dL_law_211 ?_
    refine ct_topi (y := nI (4 * k + 2)) (nI_add (4 * k) 2) ?_
    refine va_sld hx hb hX hbl hbA hS (vp_in_nI (by omega) (by omega)) dL_law_212 ?_
    refine ct_topi (y := x2) (by rw [nI_clamp (by omega)]; exact ex2.symm) ?_
    refine lv_i2d hx hb dL_law_213 ?_
    refine lv_ldc2d hx hb hown (hts _ tw_d_L_13) dL_law_214 ?_
    refine lv_dmul hx hb dL_law_217 (ag_vf x2) ?_
    refine ct_topd (y := ag x2) (rfl) ?_
    refine lv_aload_n hx hb dL_law_218 rfl (lv_at hl 3 rfl) ?_
    refine lv_iload_n hx hb dL_law_219 rfl (lv_at hl 0 rfl) ?_
    refine lv_iconst (v := 3) hx hb dL_law_220 (by decide) ?_
    refine lv_iadd hx hb dL_law_221 ?_
    refine ct_topi (y := nI (4 * k + 3)) (nI_add (4 * k) 3) ?_
    refine va_sld hx hb hX hbl hbA hS (vp_in_nI (by omega) (by omega)) dL_law_222 ?_
    refine ct_topi (y := x3) (by rw [nI_clamp (by omega)]; exact ex3.symm) ?_
    refine lv_i2d hx hb dL_law_223 ?_
    refine lv_ldc2d hx hb hown (hts _ tw_d_L_13) dL_law_224 ?_
    refine lv_dmul hx hb dL_law_227 (ag_vf x3) ?_
    refine ct_topd (y := ag x3) (rfl) ?_
    refine ct_cvc (As := [.double (ag x1), .double (ag x2), .double (ag x3)]) (rest := [.int 0]) (wr := (wM ad cA u.1 dv ib u.2.1 hs ht (nI c0) (nI u.2.2.1) u.2.2.2.1 u.2.2.2.2.1 (nI kd) u.2.2.2.2.2.1 u.2.2.2.2.2.2 Ac ts g lt)) (w1 := (wN an cB (vf_upd u.1 0 (FP.dadd (u.1 0) (ag x1))) (mixD u.2.2.2.2.2.2 (u.1 0) (ag x2) (ag x1)) (mixD Ac (u.1 0) (ag x3) (ag x1)) g 1 ts u.2.2.2.2.2.1 (nI c0) hs ht (nI kd) pa ib ac2)) (w0 := (wN an cB u.1 u.2.2.2.2.2.2 Ac g lt ts u.2.2.2.2.2.1 (nI c0) hs ht (nI kd) pa ib ac2)) ⟨hx, hb, hml, hown, hts⟩ (cN_liquor l dC dI tt _ an cB u.1 u.2.2.2.2.2.2 Ac g lt ts u.2.2.2.2.2.1 (nI c0) hs ht (nI kd) pa ib ac2 (ag x1) (ag x2) (ag x3) (ag_no x2) (ag_no x3) (fun h => (J_liquor HJ hk x1 x2 x3 h).1) (fun h => (J_liquor HJ hk x1 x2 x3 h).2.1)) (gT_V tw_m_L_24 tw_i_yN_liquor tw_s_yN_liquor tw_I_N tw_c_yN_liquor) ⟨rfl, by decide +kernel, by decide +kernel, (by decide +kernel : (parseMethodDescriptor yN_liquor.desc).map (fun d => d.parameters.length) = some 3)⟩ ⟨Nat.le_of_ble_eq_true rfl, Nat.le_of_ble_eq_true rfl⟩ (ci := 3) rfl rfl rfl hP hD hK hS hA hT [18, 19, 20, 21, 22, 23, 24] [0, 1, 2, 3, 4, 5, 6, 7, 8, 9, 10, 11, 12, 13, 14, 15, 16, 17] [8, 9, 10, 11, 12, 13] (by decide) rfl rfl (by decide) (by decide) rfl hl.1 rfl (Nat.le_of_ble_eq_true rfl) dL_law_228 ⟨Nat.le_of_ble_eq_true rfl, Nat.le_of_ble_eq_true rfl⟩ (fun c2 H locs hP hD hS => ?_) (fun c2 H locs hP hD hS => ?_)
    · exact absurd c2 c1
    · have hP : va_P (dC, dI) cls ((wM ad cA u.1 dv ib u.2.1 hs ht (nI c0) (nI u.2.2.1) u.2.2.2.1 u.2.2.2.2.1 (nI kd) u.2.2.2.2.2.1 u.2.2.2.2.2.2 Ac ts g lt) ++ (wN an cB u.1 u.2.2.2.2.2.2 Ac g lt ts u.2.2.2.2.2.1 (nI c0) hs ht (nI kd) pa ib ac2)) H := hP
      have hD : va_D _ ((wM ad cA u.1 dv ib u.2.1 hs ht (nI c0) (nI u.2.2.1) u.2.2.2.1 u.2.2.2.2.1 (nI kd) u.2.2.2.2.2.1 u.2.2.2.2.2.2 Ac ts g lt) ++ (wN an cB u.1 u.2.2.2.2.2.2 Ac g lt ts u.2.2.2.2.2.1 (nI c0) hs ht (nI kd) pa ib ac2)) := hD
      refine lv_icmp_eq (tgt := 659) hx hb dL_law_231 (by decide) (fun c3 => ?_) (fun c3 => ?_)
      · exact next u dv ib hs ht c0 kd Ac ts g lt pa ac2 _ _ _ (JI.next HJ) hP hD hS (lv_sub hl [0, 1, 2, 3] rfl)
      · exact absurd rfl c3

set_option maxHeartbeats 4000000 in
set_option maxRecDepth 100000 in
theorem lc_enzyme (C1 : LC p s m meth c dC dI tt b L xs cA cB) {k : Nat} (h4 : 4 * k + 4 ≤ L) (next : LW p l e s m below meth c dC dI b ad cA an cB 659 (4 * k) (k + 1)) : LW p l e s m below meth c dC dI b ad cA an cB 236 (4 * k) k := by
  obtain ⟨hx, hb, hr, hml, hown, hts, hX, hbl, hlocks, hK, hT, hL⟩ := C1
  have hA : ∀ q : Nat, s.heap.size ≤ q → (fun q : Nat => s.heap.size ≤ q) q := fun _ h => h
  have hbA : ¬ (fun q : Nat => s.heap.size ≤ q) b := Nat.not_le.mpr hbl
  intro u dv ib hs ht c0 kd Ac ts g lt pa ac2 H locs ls HJ hP hD hS hl
  have hk : k ≤ 511 := by omega
  obtain ⟨hkd, hc32, hAc, hTT, hWW⟩ := J_c HJ
  obtain ⟨x1, ex1⟩ : ∃ y : Int32, y = xs (4 * k + 1) := ⟨_, rfl⟩
  obtain ⟨x2, ex2⟩ : ∃ y : Int32, y = xs (4 * k + 2) := ⟨_, rfl⟩
  refine lv_aload_n hx hb dL_law_236 rfl (lv_at hl 2 rfl) ?_
  refine lv_aload_n hx hb dL_law_237 rfl (lv_at hl 3 rfl) ?_
  refine lv_iload_n hx hb dL_law_238 rfl (lv_at hl 0 rfl) ?_
  refine lv_iconst (v := 1) hx hb dL_law_239 (by decide) ?_
  refine lv_iadd hx hb dL_law_240 ?_
  refine ct_topi (y := nI (4 * k + 1)) (nI_add (4 * k) 1) ?_
  refine va_sld hx hb hX hbl hbA hS (vp_in_nI (by omega) (by omega)) dL_law_241 ?_
  refine ct_topi (y := x1) (by rw [nI_clamp (by omega)]; exact ex1.symm) ?_
  refine lv_aload_n hx hb dL_law_242 rfl (lv_at hl 3 rfl) ?_
  refine lv_iload_n hx hb dL_law_243 rfl (lv_at hl 0 rfl) ?_
  refine lv_iconst (v := 2) hx hb dL_law_244 (by decide) ?_
  refine lv_iadd hx hb dL_law_245 ?_
  refine ct_topi (y := nI (4 * k + 2)) (nI_add (4 * k) 2) ?_
  refine va_sld hx hb hX hbl hbA hS (vp_in_nI (by omega) (by omega)) dL_law_246 ?_
  refine ct_topi (y := x2) (by rw [nI_clamp (by omega)]; exact ex2.symm) ?_
  refine lv_i2d hx hb dL_law_247 ?_
  refine lv_ldc2d hx hb hown (hts _ tw_d_L_13) dL_law_248 ?_
  refine lv_dmul hx hb dL_law_251 (ag_vf x2) ?_
  refine ct_topd (y := ag x2) (rfl) ?_
  refine ct_cvc (As := [.int x1, .double (ag x2)]) (rest := []) (wr := (wN an cB u.1 u.2.2.2.2.2.2 Ac g lt ts u.2.2.2.2.2.1 (nI c0) hs ht (nI kd) pa ib ac2)) (w1 := (wM ad cA (vf_upd u.1 (9 + x1.toNatClampNeg) (FP.dadd (u.1 (9 + x1.toNatClampNeg)) (ag x2))) dv ib u.2.1 hs ht (nI c0) (nI u.2.2.1) u.2.2.2.1 u.2.2.2.2.1 (nI kd) u.2.2.2.2.2.1 u.2.2.2.2.2.2 Ac ts g lt)) (w0 := (wM ad cA u.1 dv ib u.2.1 hs ht (nI c0) (nI u.2.2.1) u.2.2.2.1 u.2.2.2.2.1 (nI kd) u.2.2.2.2.2.1 u.2.2.2.2.2.2 Ac ts g lt)) ⟨hx, hb, hml, hown, hts⟩ (cM_enzyme l dC dI tt _ ad cA u.1 dv ib u.2.1 hs ht (nI c0) (nI u.2.2.1) u.2.2.2.1 u.2.2.2.2.1 (nI kd) u.2.2.2.2.2.1 u.2.2.2.2.2.2 Ac ts g lt x1 (ag x2) (ag_no x2) (fun h => (J_enzyme HJ hk x1 x2 h).1)) (gT_V tw_m_L_25 tw_i_yM_enzyme tw_s_yM_enzyme tw_I_M tw_c_yM_enzyme) ⟨rfl, by decide +kernel, by decide +kernel, (by decide +kernel : (parseMethodDescriptor yM_enzyme.desc).map (fun d => d.parameters.length) = some 2)⟩ ⟨Nat.le_of_ble_eq_true rfl, Nat.le_of_ble_eq_true rfl⟩ (ci := 0) rfl rfl rfl hP hD hK hS hA hT [0, 1, 2, 3, 4, 5, 6, 7, 8, 9, 10, 11, 12, 13, 14, 15, 16, 17] [18, 19, 20, 21, 22, 23, 24] [0, 1, 2, 3, 4, 5, 6, 7] (by decide) rfl rfl (by decide) (by decide) rfl hl.1 rfl (Nat.le_of_ble_eq_true rfl) dL_law_252 ⟨Nat.le_of_ble_eq_true rfl, Nat.le_of_ble_eq_true rfl⟩ (fun c1 H locs hP hD hS => ?_) (fun c1 H locs hP hD hS => ?_)
  · have hP := hP.sub (ws' := (wM ad cA (vf_upd u.1 (9 + x1.toNatClampNeg) (FP.dadd (u.1 (9 + x1.toNatClampNeg)) (ag x2))) dv ib u.2.1 hs ht (nI c0) (nI u.2.2.1) u.2.2.2.1 u.2.2.2.2.1 (nI kd) u.2.2.2.2.2.1 u.2.2.2.2.2.2 Ac ts g lt) ++ (wN an cB u.1 u.2.2.2.2.2.2 Ac g lt ts u.2.2.2.2.2.1 (nI c0) hs ht (nI kd) pa ib ac2)) [7, 8, 9, 10, 11, 12, 13, 14, 15, 16, 17, 18, 19, 20, 21, 22, 23, 24, 0, 1, 2, 3, 4, 5, 6] rfl
    have hD := hD.sub (ws' := (wM ad cA (vf_upd u.1 (9 + x1.toNatClampNeg) (FP.dadd (u.1 (9 + x1.toNatClampNeg)) (ag x2))) dv ib u.2.1 hs ht (nI c0) (nI u.2.2.1) u.2.2.2.1 u.2.2.2.2.1 (nI kd) u.2.2.2.2.2.1 u.2.2.2.2.2.2 Ac ts g lt) ++ (wN an cB u.1 u.2.2.2.2.2.2 Ac g lt ts u.2.2.2.2.2.1 (nI c0) hs ht (nI kd) pa ib ac2)) [7, 8, 9, 10, 11, 12, 13, 14, 15, 16, 17, 18, 19, 20, 21, 22, 23, 24, 0, 1, 2, 3, 4, 5, 6] (by decide) rfl
    refine lv_aload_n hx hb dL_law_255 rfl (lv_at hl 1 rfl) ?_
    refine lv_aload_n hx hb dL_law_256 rfl (lv_at hl 3 rfl) ?_
    refine lv_iload_n hx hb dL_law_257 rfl (lv_at hl 0 rfl) ?_
    refine lv_iconst (v := 1) hx hb dL_law_258 (by decide) ?_
    refine lv_iadd hx hb dL_law_259 ?_
    refine ct_topi (y := nI (4 * k + 1)) (nI_add (4 * k) 1) ?_
    refine va_sld hx hb hX hbl hbA hS (vp_in_nI (by omega) (by omega)) dL_law_260 ?_
    refine ct_topi (y := x1) (by rw [nI_clamp (by omega)]; exact ex1.symm) ?_
    refine lv_aload_n hx hb dL_law_261 rfl (lv_at hl 3 rfl) ?_
    refine lv_iload_n hx hb dL_law_262 rfl (lv_at hl 0 rfl) ?_
    refine lv_iconst (v := 2) hx hb dL_law_263 (by decide) ?_
    refine lv_iadd hx hb dL_law_264 ?_
    refine ct_topi (y := nI (4 * k + 2)) (nI_add (4 * k) 2) ?_
    refine va_sld hx hb hX hbl hbA hS (vp_in_nI (by omega) (by omega)) dL_law_265 ?_
    refine ct_topi (y := x2) (by rw [nI_clamp (by omega)]; exact ex2.symm) ?_
    refine lv_i2d hx hb dL_law_266 ?_
    refine lv_ldc2d hx hb hown (hts _ tw_d_L_13) dL_law_267 ?_
    refine lv_dmul hx hb dL_law_270 (ag_vf x2) ?_
    refine ct_topd (y := ag x2) (rfl) ?_
    refine ct_cvc (As := [.int x1, .double (ag x2)]) (rest := [.int 1]) (wr := (wM ad cA (vf_upd u.1 (9 + x1.toNatClampNeg) (FP.dadd (u.1 (9 + x1.toNatClampNeg)) (ag x2))) dv ib u.2.1 hs ht (nI c0) (nI u.2.2.1) u.2.2.2.1 u.2.2.2.2.1 (nI kd) u.2.2.2.2.2.1 u.2.2.2.2.2.2 Ac ts g lt)) (w1 := (wN an cB (vf_upd u.1 (9 + x1.toNatClampNeg) (FP.dadd (u.1 (9 + x1.toNatClampNeg)) (ag x2))) u.2.2.2.2.2.2 Ac g lt ts u.2.2.2.2.2.1 (nI c0) hs ht (nI kd) pa ib ac2)) (w0 := (wN an cB u.1 u.2.2.2.2.2.2 Ac g lt ts u.2.2.2.2.2.1 (nI c0) hs ht (nI kd) pa ib ac2)) ⟨hx, hb, hml, hown, hts⟩ (cN_enzyme l dC dI tt _ an cB u.1 u.2.2.2.2.2.2 Ac g lt ts u.2.2.2.2.2.1 (nI c0) hs ht (nI kd) pa ib ac2 x1 (ag x2) (fun h => (J_enzyme HJ hk x1 x2 h).1)) (gT_V tw_m_L_29 tw_i_yN_enzyme tw_s_yN_enzyme tw_I_N tw_c_yN_enzyme) ⟨rfl, by decide +kernel, by decide +kernel, (by decide +kernel : (parseMethodDescriptor yN_enzyme.desc).map (fun d => d.parameters.length) = some 2)⟩ ⟨Nat.le_of_ble_eq_true rfl, Nat.le_of_ble_eq_true rfl⟩ (ci := 3) rfl rfl rfl hP hD hK hS hA hT [18, 19, 20, 21, 22, 23, 24] [0, 1, 2, 3, 4, 5, 6, 7, 8, 9, 10, 11, 12, 13, 14, 15, 16, 17] [8, 9, 10, 11, 12, 13] (by decide) rfl rfl (by decide) (by decide) rfl hl.1 rfl (Nat.le_of_ble_eq_true rfl) dL_law_271 ⟨Nat.le_of_ble_eq_true rfl, Nat.le_of_ble_eq_true rfl⟩ (fun c2 H locs hP hD hS => ?_) (fun c2 H locs hP hD hS => ?_)
    · have hP : va_P (dC, dI) cls ((wM ad cA (vf_upd u.1 (9 + x1.toNatClampNeg) (FP.dadd (u.1 (9 + x1.toNatClampNeg)) (ag x2))) dv ib u.2.1 hs ht (nI c0) (nI u.2.2.1) u.2.2.2.1 u.2.2.2.2.1 (nI kd) u.2.2.2.2.2.1 u.2.2.2.2.2.2 Ac ts g lt) ++ (wN an cB (vf_upd u.1 (9 + x1.toNatClampNeg) (FP.dadd (u.1 (9 + x1.toNatClampNeg)) (ag x2))) u.2.2.2.2.2.2 Ac g lt ts u.2.2.2.2.2.1 (nI c0) hs ht (nI kd) pa ib ac2)) H := hP
      have hD : va_D _ ((wM ad cA (vf_upd u.1 (9 + x1.toNatClampNeg) (FP.dadd (u.1 (9 + x1.toNatClampNeg)) (ag x2))) dv ib u.2.1 hs ht (nI c0) (nI u.2.2.1) u.2.2.2.1 u.2.2.2.2.1 (nI kd) u.2.2.2.2.2.1 u.2.2.2.2.2.2 Ac ts g lt) ++ (wN an cB (vf_upd u.1 (9 + x1.toNatClampNeg) (FP.dadd (u.1 (9 + x1.toNatClampNeg)) (ag x2))) u.2.2.2.2.2.2 Ac g lt ts u.2.2.2.2.2.1 (nI c0) hs ht (nI kd) pa ib ac2)) := hD
      refine lv_icmp_eq (tgt := 659) hx hb dL_law_274 (by decide) (fun c3 => ?_) (fun c3 => ?_)
      · exact next (vf_upd u.1 (9 + x1.toNatClampNeg) (FP.dadd (u.1 (9 + x1.toNatClampNeg)) (ag x2)), u.2) dv ib hs ht c0 kd Ac ts g lt pa ac2 _ _ _ ((J_enzyme HJ hk x1 x2 c1).2) hP hD hS (lv_sub hl [0, 1, 2, 3] rfl)
      · exact absurd rfl c3
    · exact absurd c1 c2
  · have hP := hP.sub (ws' := (wM ad cA u.1 dv ib u.2.1 hs ht (nI c0) (nI u.2.2.1) u.2.2.2.1 u.2.2.2.2.1 (nI kd) u.2.2.2.2.2.1 u.2.2.2.2.2.2 Ac ts g lt) ++ (wN an cB u.1 u.2.2.2.2.2.2 Ac g lt ts u.2.2.2.2.2.1 (nI c0) hs ht (nI kd) pa ib ac2)) [7, 8, 9, 10, 11, 12, 13, 14, 15, 16, 17, 18, 19, 20, 21, 22, 23, 24, 0, 1, 2, 3, 4, 5, 6] rfl
    have hD := hD.sub (ws' := (wM ad cA u.1 dv ib u.2.1 hs ht (nI c0) (nI u.2.2.1) u.2.2.2.1 u.2.2.2.2.1 (nI kd) u.2.2.2.2.2.1 u.2.2.2.2.2.2 Ac ts g lt) ++ (wN an cB u.1 u.2.2.2.2.2.2 Ac g lt ts u.2.2.2.2.2.1 (nI c0) hs ht (nI kd) pa ib ac2)) [7, 8, 9, 10, 11, 12, 13, 14, 15, 16, 17, 18, 19, 20, 21, 22, 23, 24, 0, 1, 2, 3, 4, 5, 6] (by decide) rfl
    refine lv_aload_n hx hb dL_law_255 rfl (lv_at hl 1 rfl) ?_
    refine lv_aload_n hx hb dL_law_256 rfl (lv_at hl 3 rfl) ?_
    refine lv_iload_n hx hb dL_law_257 rfl (lv_at hl 0 rfl) ?_
    refine lv_iconst (v := 1) hx hb dL_law_258 (by decide) ?_
    refine lv_iadd hx hb dL_law_259 ?_
    refine ct_topi (y := nI (4 * k + 1)) (nI_add (4 * k) 1) ?_
    refine va_sld hx hb hX hbl hbA hS (vp_in_nI (by omega) (by omega)) dL_law_260 ?_
    refine ct_topi (y := x1) (by rw [nI_clamp (by omega)]; exact ex1.symm) ?_
    refine lv_aload_n hx hb dL_law_261 rfl (lv_at hl 3 rfl) ?_
    refine lv_iload_n hx hb dL_law_262 rfl (lv_at hl 0 rfl) ?_
    refine lv_iconst (v := 2) hx hb dL_law_263 (by decide) ?_
    refine lv_iadd hx hb dL_law_264 ?_
    refine ct_topi (y := nI (4 * k + 2)) (nI_add (4 * k) 2) ?_
    refine va_sld hx hb hX hbl hbA hS (vp_in_nI (by omega) (by omega)) dL_law_265 ?_
    refine ct_topi (y := x2) (by rw [nI_clamp (by omega)]; exact ex2.symm) ?_
    refine lv_i2d hx hb dL_law_266 ?_
    refine lv_ldc2d hx hb hown (hts _ tw_d_L_13) dL_law_267 ?_
    refine lv_dmul hx hb dL_law_270 (ag_vf x2) ?_
    refine ct_topd (y := ag x2) (rfl) ?_
    refine ct_cvc (As := [.int x1, .double (ag x2)]) (rest := [.int 0]) (wr := (wM ad cA u.1 dv ib u.2.1 hs ht (nI c0) (nI u.2.2.1) u.2.2.2.1 u.2.2.2.2.1 (nI kd) u.2.2.2.2.2.1 u.2.2.2.2.2.2 Ac ts g lt)) (w1 := (wN an cB (vf_upd u.1 (9 + x1.toNatClampNeg) (FP.dadd (u.1 (9 + x1.toNatClampNeg)) (ag x2))) u.2.2.2.2.2.2 Ac g lt ts u.2.2.2.2.2.1 (nI c0) hs ht (nI kd) pa ib ac2)) (w0 := (wN an cB u.1 u.2.2.2.2.2.2 Ac g lt ts u.2.2.2.2.2.1 (nI c0) hs ht (nI kd) pa ib ac2)) ⟨hx, hb, hml, hown, hts⟩ (cN_enzyme l dC dI tt _ an cB u.1 u.2.2.2.2.2.2 Ac g lt ts u.2.2.2.2.2.1 (nI c0) hs ht (nI kd) pa ib ac2 x1 (ag x2) (fun h => (J_enzyme HJ hk x1 x2 h).1)) (gT_V tw_m_L_29 tw_i_yN_enzyme tw_s_yN_enzyme tw_I_N tw_c_yN_enzyme) ⟨rfl, by decide +kernel, by decide +kernel, (by decide +kernel : (parseMethodDescriptor yN_enzyme.desc).map (fun d => d.parameters.length) = some 2)⟩ ⟨Nat.le_of_ble_eq_true rfl, Nat.le_of_ble_eq_true rfl⟩ (ci := 3) rfl rfl rfl hP hD hK hS hA hT [18, 19, 20, 21, 22, 23, 24] [0, 1, 2, 3, 4, 5, 6, 7, 8, 9, 10, 11, 12, 13, 14, 15, 16, 17] [8, 9, 10, 11, 12, 13] (by decide) rfl rfl (by decide) (by decide) rfl hl.1 rfl (Nat.le_of_ble_eq_true rfl) dL_law_271 ⟨Nat.le_of_ble_eq_true rfl, Nat.le_of_ble_eq_true rfl⟩ (fun c2 H locs hP hD hS => ?_) (fun c2 H locs hP hD hS => ?_)
    · exact absurd c2 c1
    · have hP : va_P (dC, dI) cls ((wM ad cA u.1 dv ib u.2.1 hs ht (nI c0) (nI u.2.2.1) u.2.2.2.1 u.2.2.2.2.1 (nI kd) u.2.2.2.2.2.1 u.2.2.2.2.2.2 Ac ts g lt) ++ (wN an cB u.1 u.2.2.2.2.2.2 Ac g lt ts u.2.2.2.2.2.1 (nI c0) hs ht (nI kd) pa ib ac2)) H := hP
      have hD : va_D _ ((wM ad cA u.1 dv ib u.2.1 hs ht (nI c0) (nI u.2.2.1) u.2.2.2.1 u.2.2.2.2.1 (nI kd) u.2.2.2.2.2.1 u.2.2.2.2.2.2 Ac ts g lt) ++ (wN an cB u.1 u.2.2.2.2.2.2 Ac g lt ts u.2.2.2.2.2.1 (nI c0) hs ht (nI kd) pa ib ac2)) := hD
      refine lv_icmp_eq (tgt := 659) hx hb dL_law_274 (by decide) (fun c3 => ?_) (fun c3 => ?_)
      · exact next u dv ib hs ht c0 kd Ac ts g lt pa ac2 _ _ _ (JI.next HJ) hP hD hS (lv_sub hl [0, 1, 2, 3] rfl)
      · exact absurd rfl c3

set_option maxHeartbeats 4000000 in
set_option maxRecDepth 100000 in
theorem lc_step (C1 : LC p s m meth c dC dI tt b L xs cA cB) {k : Nat} (h4 : 4 * k + 4 ≤ L) (next : LW p l e s m below meth c dC dI b ad cA an cB 659 (4 * k) (k + 1)) : LW p l e s m below meth c dC dI b ad cA an cB 279 (4 * k) k := by
  obtain ⟨hx, hb, hr, hml, hown, hts, hX, hbl, hlocks, hK, hT, hL⟩ := C1
  have hA : ∀ q : Nat, s.heap.size ≤ q → (fun q : Nat => s.heap.size ≤ q) q := fun _ h => h
  have hbA : ¬ (fun q : Nat => s.heap.size ≤ q) b := Nat.not_le.mpr hbl
  intro u dv ib hs ht c0 kd Ac ts g lt pa ac2 H locs ls HJ hP hD hS hl
  have hk : k ≤ 511 := by omega
  obtain ⟨hkd, hc32, hAc, hTT, hWW⟩ := J_c HJ
  obtain ⟨x1, ex1⟩ : ∃ y : Int32, y = xs (4 * k + 1) := ⟨_, rfl⟩
  obtain ⟨x2, ex2⟩ : ∃ y : Int32, y = xs (4 * k + 2) := ⟨_, rfl⟩
  refine lv_aload_n hx hb dL_law_279 rfl (lv_at hl 2 rfl) ?_
  refine lv_aload_n hx hb dL_law_280 rfl (lv_at hl 3 rfl) ?_
  refine lv_iload_n hx hb dL_law_281 rfl (lv_at hl 0 rfl) ?_
  refine lv_iconst (v := 1) hx hb dL_law_282 (by decide) ?_
  refine lv_iadd hx hb dL_law_283 ?_
  refine ct_topi (y := nI (4 * k + 1)) (nI_add (4 * k) 1) ?_
  refine va_sld hx hb hX hbl hbA hS (vp_in_nI (by omega) (by omega)) dL_law_284 ?_
  refine ct_topi (y := x1) (by rw [nI_clamp (by omega)]; exact ex1.symm) ?_
  refine lv_aload_n hx hb dL_law_285 rfl (lv_at hl 3 rfl) ?_
  refine lv_iload_n hx hb dL_law_286 rfl (lv_at hl 0 rfl) ?_
  refine lv_iconst (v := 2) hx hb dL_law_287 (by decide) ?_
  refine lv_iadd hx hb dL_law_288 ?_
  refine ct_topi (y := nI (4 * k + 2)) (nI_add (4 * k) 2) ?_
  refine va_sld hx hb hX hbl hbA hS (vp_in_nI (by omega) (by omega)) dL_law_289 ?_
  refine ct_topi (y := x2) (by rw [nI_clamp (by omega)]; exact ex2.symm) ?_
  refine lv_i2d hx hb dL_law_290 ?_
  refine lv_ldc2d hx hb hown (hts _ tw_d_L_13) dL_law_291 ?_
  refine lv_dmul hx hb dL_law_294 (ag_vf x2) ?_
  refine ct_topd (y := ag x2) (rfl) ?_
  refine ct_cvc (As := [.int x1, .double (ag x2)]) (rest := []) (wr := (wN an cB u.1 u.2.2.2.2.2.2 Ac g lt ts u.2.2.2.2.2.1 (nI c0) hs ht (nI kd) pa ib ac2)) (w1 := (wM ad cA u.1 dv ib u.2.1 (upd hs c0 x1) (vf_upd ht c0 (ag x2)) (nI (c0 + 1)) (nI u.2.2.1) u.2.2.2.1 u.2.2.2.2.1 (nI kd) u.2.2.2.2.2.1 u.2.2.2.2.2.2 Ac ts g lt)) (w0 := (wM ad cA u.1 dv ib u.2.1 hs ht (nI c0) (nI u.2.2.1) u.2.2.2.1 u.2.2.2.2.1 (nI kd) u.2.2.2.2.2.1 u.2.2.2.2.2.2 Ac ts g lt)) ⟨hx, hb, hml, hown, hts⟩ (cM_step l dC dI tt _ ad cA u.1 dv ib u.2.1 hs ht c0 (nI u.2.2.1) u.2.2.2.1 u.2.2.2.2.1 (nI kd) u.2.2.2.2.2.1 u.2.2.2.2.2.2 Ac ts g lt x1 (ag x2) hc32) (gT_V tw_m_L_30 tw_i_yM_step tw_s_yM_step tw_I_M tw_c_yM_step) ⟨rfl, by decide +kernel, by decide +kernel, (by decide +kernel : (parseMethodDescriptor yM_step.desc).map (fun d => d.parameters.length) = some 2)⟩ ⟨Nat.le_of_ble_eq_true rfl, Nat.le_of_ble_eq_true rfl⟩ (ci := 0) rfl rfl rfl hP hD hK hS hA hT [0, 1, 2, 3, 4, 5, 6, 7, 8, 9, 10, 11, 12, 13, 14, 15, 16, 17] [18, 19, 20, 21, 22, 23, 24] [0, 1, 2, 3, 4, 5, 6, 7] (by decide) rfl rfl (by decide) (by decide) rfl hl.1 rfl (Nat.le_of_ble_eq_true rfl) dL_law_295 ⟨Nat.le_of_ble_eq_true rfl, Nat.le_of_ble_eq_true rfl⟩ (fun c1 H locs hP hD hS => ?_) (fun c1 H locs hP hD hS => ?_)
  · have hP := hP.sub (ws' := (wM ad cA u.1 dv ib u.2.1 (upd hs c0 x1) (vf_upd ht c0 (ag x2)) (nI (c0 + 1)) (nI u.2.2.1) u.2.2.2.1 u.2.2.2.2.1 (nI kd) u.2.2.2.2.2.1 u.2.2.2.2.2.2 Ac ts g lt) ++ (wN an cB u.1 u.2.2.2.2.2.2 Ac g lt ts u.2.2.2.2.2.1 (nI c0) hs ht (nI kd) pa ib ac2)) [7, 8, 9, 10, 11, 12, 13, 14, 15, 16, 17, 18, 19, 20, 21, 22, 23, 24, 0, 1, 2, 3, 4, 5, 6] rfl
    have hD := hD.sub (ws' := (wM ad cA u.1 dv ib u.2.1 (upd hs c0 x1) (vf_upd ht c0 (ag x2)) (nI (c0 + 1)) (nI u.2.2.1) u.2.2.2.1 u.2.2.2.2.1 (nI kd) u.2.2.2.2.2.1 u.2.2.2.2.2.2 Ac ts g lt) ++ (wN an cB u.1 u.2.2.2.2.2.2 Ac g lt ts u.2.2.2.2.2.1 (nI c0) hs ht (nI kd) pa ib ac2)) [7, 8, 9, 10, 11, 12, 13, 14, 15, 16, 17, 18, 19, 20, 21, 22, 23, 24, 0, 1, 2, 3, 4, 5, 6] (by decide) rfl
    refine lv_aload_n hx hb dL_law_298 rfl (lv_at hl 1 rfl) ?_
    refine lv_aload_n hx hb dL_law_299 rfl (lv_at hl 3 rfl) ?_
    refine lv_iload_n hx hb dL_law_300 rfl (lv_at hl 0 rfl) ?_
    refine lv_iconst (v := 1) hx hb dL_law_301 (by decide) ?_
    refine lv_iadd hx hb dL_law_302 ?_
    refine ct_topi (y := nI (4 * k + 1)) (nI_add (4 * k) 1) ?_
    refine va_sld hx hb hX hbl hbA hS (vp_in_nI (by omega) (by omega)) dL_law_303 ?_
    refine ct_topi (y := x1) (by rw [nI_clamp (by omega)]; exact ex1.symm) ?_
    refine lv_aload_n hx hb dL_law_304 rfl (lv_at hl 3 rfl) ?_
    refine lv_iload_n hx hb dL_law_305 rfl (lv_at hl 0 rfl) ?_
    refine lv_iconst (v := 2) hx hb dL_law_306 (by decide) ?_
    refine lv_iadd hx hb dL_law_307 ?_
    refine ct_topi (y := nI (4 * k + 2)) (nI_add (4 * k) 2) ?_
    refine va_sld hx hb hX hbl hbA hS (vp_in_nI (by omega) (by omega)) dL_law_308 ?_
    refine ct_topi (y := x2) (by rw [nI_clamp (by omega)]; exact ex2.symm) ?_
    refine lv_i2d hx hb dL_law_309 ?_
    refine lv_ldc2d hx hb hown (hts _ tw_d_L_13) dL_law_310 ?_
    refine lv_dmul hx hb dL_law_313 (ag_vf x2) ?_
    refine ct_topd (y := ag x2) (rfl) ?_
    refine ct_cvc (As := [.int x1, .double (ag x2)]) (rest := [.int 1]) (wr := (wM ad cA u.1 dv ib u.2.1 (upd hs c0 x1) (vf_upd ht c0 (ag x2)) (nI (c0 + 1)) (nI u.2.2.1) u.2.2.2.1 u.2.2.2.2.1 (nI kd) u.2.2.2.2.2.1 u.2.2.2.2.2.2 Ac ts g lt)) (w1 := (wN an cB u.1 u.2.2.2.2.2.2 Ac g lt ts u.2.2.2.2.2.1 (nI (c0 + 1)) (upd hs c0 x1) (vf_upd ht c0 (ag x2)) (nI kd) pa ib ac2)) (w0 := (wN an cB u.1 u.2.2.2.2.2.2 Ac g lt ts u.2.2.2.2.2.1 (nI c0) hs ht (nI kd) pa ib ac2)) ⟨hx, hb, hml, hown, hts⟩ (cN_step l dC dI tt _ an cB u.1 u.2.2.2.2.2.2 Ac g lt ts u.2.2.2.2.2.1 c0 hs ht (nI kd) pa ib ac2 x1 (ag x2) hc32 (ag_no x2)) (gT_V tw_m_L_33 tw_i_yN_step tw_s_yN_step tw_I_N tw_c_yN_step) ⟨rfl, by decide +kernel, by decide +kernel, (by decide +kernel : (parseMethodDescriptor yN_step.desc).map (fun d => d.parameters.length) = some 2)⟩ ⟨Nat.le_of_ble_eq_true rfl, Nat.le_of_ble_eq_true rfl⟩ (ci := 3) rfl rfl rfl hP hD hK hS hA hT [18, 19, 20, 21, 22, 23, 24] [0, 1, 2, 3, 4, 5, 6, 7, 8, 9, 10, 11, 12, 13, 14, 15, 16, 17] [8, 9, 10, 11, 12, 13] (by decide) rfl rfl (by decide) (by decide) rfl hl.1 rfl (Nat.le_of_ble_eq_true rfl) dL_law_314 ⟨Nat.le_of_ble_eq_true rfl, Nat.le_of_ble_eq_true rfl⟩ (fun c2 H locs hP hD hS => ?_) (fun c2 H locs hP hD hS => ?_)
    · have hP : va_P (dC, dI) cls ((wM ad cA u.1 dv ib u.2.1 (upd hs c0 x1) (vf_upd ht c0 (ag x2)) (nI (c0 + 1)) (nI u.2.2.1) u.2.2.2.1 u.2.2.2.2.1 (nI kd) u.2.2.2.2.2.1 u.2.2.2.2.2.2 Ac ts g lt) ++ (wN an cB u.1 u.2.2.2.2.2.2 Ac g lt ts u.2.2.2.2.2.1 (nI (c0 + 1)) (upd hs c0 x1) (vf_upd ht c0 (ag x2)) (nI kd) pa ib ac2)) H := hP
      have hD : va_D _ ((wM ad cA u.1 dv ib u.2.1 (upd hs c0 x1) (vf_upd ht c0 (ag x2)) (nI (c0 + 1)) (nI u.2.2.1) u.2.2.2.1 u.2.2.2.2.1 (nI kd) u.2.2.2.2.2.1 u.2.2.2.2.2.2 Ac ts g lt) ++ (wN an cB u.1 u.2.2.2.2.2.2 Ac g lt ts u.2.2.2.2.2.1 (nI (c0 + 1)) (upd hs c0 x1) (vf_upd ht c0 (ag x2)) (nI kd) pa ib ac2)) := hD
      refine lv_icmp_eq (tgt := 659) hx hb dL_law_317 (by decide) (fun c3 => ?_) (fun c3 => ?_)
      · exact next u dv ib (upd hs c0 x1) (vf_upd ht c0 (ag x2)) (c0 + 1) kd Ac ts g lt pa ac2 _ _ _ (J_step HJ x1 x2 c1) hP hD hS (lv_sub hl [0, 1, 2, 3] rfl)
      · exact absurd rfl c3
    · exact absurd c1 c2
  · have hP := hP.sub (ws' := (wM ad cA u.1 dv ib u.2.1 hs ht (nI c0) (nI u.2.2.1) u.2.2.2.1 u.2.2.2.2.1 (nI kd) u.2.2.2.2.2.1 u.2.2.2.2.2.2 Ac ts g lt) ++ (wN an cB u.1 u.2.2.2.2.2.2 Ac g lt ts u.2.2.2.2.2.1 (nI c0) hs ht (nI kd) pa ib ac2)) [7, 8, 9, 10, 11, 12, 13, 14, 15, 16, 17, 18, 19, 20, 21, 22, 23, 24, 0, 1, 2, 3, 4, 5, 6] rfl
    have hD := hD.sub (ws' := (wM ad cA u.1 dv ib u.2.1 hs ht (nI c0) (nI u.2.2.1) u.2.2.2.1 u.2.2.2.2.1 (nI kd) u.2.2.2.2.2.1 u.2.2.2.2.2.2 Ac ts g lt) ++ (wN an cB u.1 u.2.2.2.2.2.2 Ac g lt ts u.2.2.2.2.2.1 (nI c0) hs ht (nI kd) pa ib ac2)) [7, 8, 9, 10, 11, 12, 13, 14, 15, 16, 17, 18, 19, 20, 21, 22, 23, 24, 0, 1, 2, 3, 4, 5, 6] (by decide) rfl
    refine lv_aload_n hx hb dL_law_298 rfl (lv_at hl 1 rfl) ?_
    refine lv_aload_n hx hb dL_law_299 rfl (lv_at hl 3 rfl) ?_
    refine lv_iload_n hx hb dL_law_300 rfl (lv_at hl 0 rfl) ?_
    refine lv_iconst (v := 1) hx hb dL_law_301 (by decide) ?_
    refine lv_iadd hx hb dL_law_302 ?_
    refine ct_topi (y := nI (4 * k + 1)) (nI_add (4 * k) 1) ?_
    refine va_sld hx hb hX hbl hbA hS (vp_in_nI (by omega) (by omega)) dL_law_303 ?_
    refine ct_topi (y := x1) (by rw [nI_clamp (by omega)]; exact ex1.symm) ?_
    refine lv_aload_n hx hb dL_law_304 rfl (lv_at hl 3 rfl) ?_
    refine lv_iload_n hx hb dL_law_305 rfl (lv_at hl 0 rfl) ?_
    refine lv_iconst (v := 2) hx hb dL_law_306 (by decide) ?_
    refine lv_iadd hx hb dL_law_307 ?_
    refine ct_topi (y := nI (4 * k + 2)) (nI_add (4 * k) 2) ?_
    refine va_sld hx hb hX hbl hbA hS (vp_in_nI (by omega) (by omega)) dL_law_308 ?_
    refine ct_topi (y := x2) (by rw [nI_clamp (by omega)]; exact ex2.symm) ?_
    refine lv_i2d hx hb dL_law_309 ?_
    refine lv_ldc2d hx hb hown (hts _ tw_d_L_13) dL_law_310 ?_
    refine lv_dmul hx hb dL_law_313 (ag_vf x2) ?_
    refine ct_topd (y := ag x2) (rfl) ?_
    refine ct_cvc (As := [.int x1, .double (ag x2)]) (rest := [.int 0]) (wr := (wM ad cA u.1 dv ib u.2.1 hs ht (nI c0) (nI u.2.2.1) u.2.2.2.1 u.2.2.2.2.1 (nI kd) u.2.2.2.2.2.1 u.2.2.2.2.2.2 Ac ts g lt)) (w1 := (wN an cB u.1 u.2.2.2.2.2.2 Ac g lt ts u.2.2.2.2.2.1 (nI (c0 + 1)) (upd hs c0 x1) (vf_upd ht c0 (ag x2)) (nI kd) pa ib ac2)) (w0 := (wN an cB u.1 u.2.2.2.2.2.2 Ac g lt ts u.2.2.2.2.2.1 (nI c0) hs ht (nI kd) pa ib ac2)) ⟨hx, hb, hml, hown, hts⟩ (cN_step l dC dI tt _ an cB u.1 u.2.2.2.2.2.2 Ac g lt ts u.2.2.2.2.2.1 c0 hs ht (nI kd) pa ib ac2 x1 (ag x2) hc32 (ag_no x2)) (gT_V tw_m_L_33 tw_i_yN_step tw_s_yN_step tw_I_N tw_c_yN_step) ⟨rfl, by decide +kernel, by decide +kernel, (by decide +kernel : (parseMethodDescriptor yN_step.desc).map (fun d => d.parameters.length) = some 2)⟩ ⟨Nat.le_of_ble_eq_true rfl, Nat.le_of_ble_eq_true rfl⟩ (ci := 3) rfl rfl rfl hP hD hK hS hA hT [18, 19, 20, 21, 22, 23, 24] [0, 1, 2, 3, 4, 5, 6, 7, 8, 9, 10, 11, 12, 13, 14, 15, 16, 17] [8, 9, 10, 11, 12, 13] (by decide) rfl rfl (by decide) (by decide) rfl hl.1 rfl (Nat.le_of_ble_eq_true rfl) dL_law_314 ⟨Nat.le_of_ble_eq_true rfl, Nat.le_of_ble_eq_true rfl⟩ (fun c2 H locs hP hD hS => ?_) (fun c2 H locs hP hD hS => ?_)
    · exact absurd c2 c1
    · have hP : va_P (dC, dI) cls ((wM ad cA u.1 dv ib u.2.1 hs ht (nI c0) (nI u.2.2.1) u.2.2.2.1 u.2.2.2.2.1 (nI kd) u.2.2.2.2.2.1 u.2.2.2.2.2.2 Ac ts g lt) ++ (wN an cB u.1 u.2.2.2.2.2.2 Ac g lt ts u.2.2.2.2.2.1 (nI c0) hs ht (nI kd) pa ib ac2)) H := hP
      have hD : va_D _ ((wM ad cA u.1 dv ib u.2.1 hs ht (nI c0) (nI u.2.2.1) u.2.2.2.1 u.2.2.2.2.1 (nI kd) u.2.2.2.2.2.1 u.2.2.2.2.2.2 Ac ts g lt) ++ (wN an cB u.1 u.2.2.2.2.2.2 Ac g lt ts u.2.2.2.2.2.1 (nI c0) hs ht (nI kd) pa ib ac2)) := hD
      refine lv_icmp_eq (tgt := 659) hx hb dL_law_317 (by decide) (fun c3 => ?_) (fun c3 => ?_)
      · exact next u dv ib hs ht c0 kd Ac ts g lt pa ac2 _ _ _ (JI.next HJ) hP hD hS (lv_sub hl [0, 1, 2, 3] rfl)
      · exact absurd rfl c3

set_option maxHeartbeats 4000000 in
set_option maxRecDepth 100000 in
theorem lc_run (C1 : LC p s m meth c dC dI tt b L xs cA cB) {k : Nat} (h4 : 4 * k + 4 ≤ L) (next : LW p l e s m below meth c dC dI b ad cA an cB 659 (4 * k) (k + 1)) : LW p l e s m below meth c dC dI b ad cA an cB 322 (4 * k) k := by
  obtain ⟨hx, hb, hr, hml, hown, hts, hX, hbl, hlocks, hK, hT, hL⟩ := C1
  have hA : ∀ q : Nat, s.heap.size ≤ q → (fun q : Nat => s.heap.size ≤ q) q := fun _ h => h
  have hbA : ¬ (fun q : Nat => s.heap.size ≤ q) b := Nat.not_le.mpr hbl
  intro u dv ib hs ht c0 kd Ac ts g lt pa ac2 H locs ls HJ hP hD hS hl
  have hk : k ≤ 511 := by omega
  obtain ⟨hkd, hc32, hAc, hTT, hWW⟩ := J_c HJ
  obtain ⟨x1, ex1⟩ : ∃ y : Int32, y = xs (4 * k + 1) := ⟨_, rfl⟩
  refine lv_aload_n hx hb dL_law_322 rfl (lv_at hl 2 rfl) ?_
  refine lv_aload_n hx hb dL_law_323 rfl (lv_at hl 3 rfl) ?_
  refine lv_iload_n hx hb dL_law_324 rfl (lv_at hl 0 rfl) ?_
  refine lv_iconst (v := 1) hx hb dL_law_325 (by decide) ?_
  refine lv_iadd hx hb dL_law_326 ?_
  refine ct_topi (y := nI (4 * k + 1)) (nI_add (4 * k) 1) ?_
  refine va_sld hx hb hX hbl hbA hS (vp_in_nI (by omega) (by omega)) dL_law_327 ?_
  refine ct_topi (y := x1) (by rw [nI_clamp (by omega)]; exact ex1.symm) ?_
  refine ct_cvc (As := [.int x1]) (rest := []) (wr := (wN an cB u.1 u.2.2.2.2.2.2 Ac g lt ts u.2.2.2.2.2.1 (nI c0) hs ht (nI kd) pa ib ac2)) (w1 := (wS ad cA dv ib hs ht c0 (nI kd) Ac ts g lt (itS hs ht c0 Ac x1.toNatClampNeg u))) (w0 := (wM ad cA u.1 dv ib u.2.1 hs ht (nI c0) (nI u.2.2.1) u.2.2.2.1 u.2.2.2.2.1 (nI kd) u.2.2.2.2.2.1 u.2.2.2.2.2.2 Ac ts g lt)) ⟨hx, hb, hml, hown, hts⟩ (cM_run l dC dI tt _ ad cA dv ib hs ht c0 (nI kd) Ac ts g lt u x1 hc32 hAc (fun h i hi => ((J_run HJ hk ac2 x1 g lt h).1 i hi).1)) (gT_V tw_m_L_34 tw_i_yM_run tw_s_yM_run tw_I_M tw_c_yM_run) ⟨rfl, by decide +kernel, by decide +kernel, (by decide +kernel : (parseMethodDescriptor yM_run.desc).map (fun d => d.parameters.length) = some 1)⟩ ⟨Nat.le_of_ble_eq_true rfl, Nat.le_of_ble_eq_true rfl⟩ (ci := 0) rfl rfl rfl hP hD hK hS hA hT [0, 1, 2, 3, 4, 5, 6, 7, 8, 9, 10, 11, 12, 13, 14, 15, 16, 17] [18, 19, 20, 21, 22, 23, 24] [0, 1, 2, 3, 4, 5, 6, 7] (by decide) rfl rfl (by decide) (by decide) rfl hl.1 rfl (Nat.le_of_ble_eq_true rfl) dL_law_328 ⟨Nat.le_of_ble_eq_true rfl, Nat.le_of_ble_eq_true rfl⟩ (fun c1 H locs hP hD hS => ?_) (fun c1 H locs hP hD hS => ?_)
  · have hP := hP.sub (ws' := (wS ad cA dv ib hs ht c0 (nI kd) Ac ts g lt (itS hs ht c0 Ac x1.toNatClampNeg u)) ++ (wN an cB u.1 u.2.2.2.2.2.2 Ac g lt ts u.2.2.2.2.2.1 (nI c0) hs ht (nI kd) pa ib ac2)) [7, 8, 9, 10, 11, 12, 13, 14, 15, 16, 17, 18, 19, 20, 21, 22, 23, 24, 0, 1, 2, 3, 4, 5, 6] rfl
    have hD := hD.sub (ws' := (wS ad cA dv ib hs ht c0 (nI kd) Ac ts g lt (itS hs ht c0 Ac x1.toNatClampNeg u)) ++ (wN an cB u.1 u.2.2.2.2.2.2 Ac g lt ts u.2.2.2.2.2.1 (nI c0) hs ht (nI kd) pa ib ac2)) [7, 8, 9, 10, 11, 12, 13, 14, 15, 16, 17, 18, 19, 20, 21, 22, 23, 24, 0, 1, 2, 3, 4, 5, 6] (by decide) rfl
    refine lv_aload_n hx hb dL_law_331 rfl (lv_at hl 1 rfl) ?_
    refine lv_aload_n hx hb dL_law_332 rfl (lv_at hl 3 rfl) ?_
    refine lv_iload_n hx hb dL_law_333 rfl (lv_at hl 0 rfl) ?_
    refine lv_iconst (v := 1) hx hb dL_law_334 (by decide) ?_
    refine lv_iadd hx hb dL_law_335 ?_
    refine ct_topi (y := nI (4 * k + 1)) (nI_add (4 * k) 1) ?_
    refine va_sld hx hb hX hbl hbA hS (vp_in_nI (by omega) (by omega)) dL_law_336 ?_
    refine ct_topi (y := x1) (by rw [nI_clamp (by omega)]; exact ex1.symm) ?_
    refine ct_cvc (As := [.int x1]) (rest := [.int ((itS hs ht c0 Ac x1.toNatClampNeg u).2.2.2.2.2.1)]) (wr := (wS ad cA dv ib hs ht c0 (nI kd) Ac ts g lt (itS hs ht c0 Ac x1.toNatClampNeg u))) (w1 := (wR an cB Ac g lt ts c0 hs ht (nI kd) pa ib (itN hs ht c0 Ac x1.toNatClampNeg (u.1, ac2, u.2.2.2.2.2.1, u.2.2.2.2.2.2)))) (w0 := (wR an cB Ac g lt ts c0 hs ht (nI kd) pa ib (u.1, ac2, u.2.2.2.2.2.1, u.2.2.2.2.2.2))) ⟨hx, hb, hml, hown, hts⟩ (cN_run l dC dI tt _ an cB Ac g lt ts c0 hs ht (nI kd) pa ib (u.1, ac2, u.2.2.2.2.2.1, u.2.2.2.2.2.2) x1 hc32 hAc (fun h i hi => ((J_run HJ hk ac2 x1 g lt h).1 i hi).2)) (gT_V tw_m_L_38 tw_i_yN_run tw_s_yN_run tw_I_N tw_c_yN_run) ⟨rfl, by decide +kernel, by decide +kernel, (by decide +kernel : (parseMethodDescriptor yN_run.desc).map (fun d => d.parameters.length) = some 1)⟩ ⟨Nat.le_of_ble_eq_true rfl, Nat.le_of_ble_eq_true rfl⟩ (ci := 3) rfl rfl rfl hP hD hK hS hA hT [18, 19, 20, 21, 22, 23, 24] [0, 1, 2, 3, 4, 5, 6, 7, 8, 9, 10, 11, 12, 13, 14, 15, 16, 17] [8, 9, 10, 11, 12, 13] (by decide) rfl rfl (by decide) (by decide) rfl hl.1 rfl (Nat.le_of_ble_eq_true rfl) dL_law_337 ⟨Nat.le_of_ble_eq_true rfl, Nat.le_of_ble_eq_true rfl⟩ (fun c2 H locs hP hD hS => ?_) (fun c2 H locs hP hD hS => ?_)
    · have hP : va_P (dC, dI) cls ((wS ad cA dv ib hs ht c0 (nI kd) Ac ts g lt (itS hs ht c0 Ac x1.toNatClampNeg u)) ++ (wR an cB Ac g lt ts c0 hs ht (nI kd) pa ib (itN hs ht c0 Ac x1.toNatClampNeg (u.1, ac2, u.2.2.2.2.2.1, u.2.2.2.2.2.2)))) H := hP
      have hD : va_D _ ((wS ad cA dv ib hs ht c0 (nI kd) Ac ts g lt (itS hs ht c0 Ac x1.toNatClampNeg u)) ++ (wR an cB Ac g lt ts c0 hs ht (nI kd) pa ib (itN hs ht c0 Ac x1.toNatClampNeg (u.1, ac2, u.2.2.2.2.2.1, u.2.2.2.2.2.2)))) := hD
      refine lv_icmp_eq (tgt := 659) hx hb dL_law_340 (by decide) (fun c3 => ?_) (fun c3 => ?_)
      · rw [(J_run HJ hk ac2 x1 g lt c1).2.1] at hP hD
        exact next (itS hs ht c0 Ac x1.toNatClampNeg u) dv ib hs ht c0 kd Ac ts g lt pa (itN hs ht c0 Ac x1.toNatClampNeg (u.1, ac2, u.2.2.2.2.2.1, u.2.2.2.2.2.2)).2.1 _ _ _ ((J_run HJ hk ac2 x1 g lt c1).2.2) hP hD hS (lv_sub hl [0, 1, 2, 3] rfl)
      · exact absurd (by rw [(J_run HJ hk ac2 x1 g lt c1).2.1]) c3
    · exact absurd c1 c2
  · have hP := hP.sub (ws' := (wM ad cA u.1 dv ib u.2.1 hs ht (nI c0) (nI u.2.2.1) u.2.2.2.1 u.2.2.2.2.1 (nI kd) u.2.2.2.2.2.1 u.2.2.2.2.2.2 Ac ts g lt) ++ (wN an cB u.1 u.2.2.2.2.2.2 Ac g lt ts u.2.2.2.2.2.1 (nI c0) hs ht (nI kd) pa ib ac2)) [7, 8, 9, 10, 11, 12, 13, 14, 15, 16, 17, 18, 19, 20, 21, 22, 23, 24, 0, 1, 2, 3, 4, 5, 6] rfl
    have hD := hD.sub (ws' := (wM ad cA u.1 dv ib u.2.1 hs ht (nI c0) (nI u.2.2.1) u.2.2.2.1 u.2.2.2.2.1 (nI kd) u.2.2.2.2.2.1 u.2.2.2.2.2.2 Ac ts g lt) ++ (wN an cB u.1 u.2.2.2.2.2.2 Ac g lt ts u.2.2.2.2.2.1 (nI c0) hs ht (nI kd) pa ib ac2)) [7, 8, 9, 10, 11, 12, 13, 14, 15, 16, 17, 18, 19, 20, 21, 22, 23, 24, 0, 1, 2, 3, 4, 5, 6] (by decide) rfl
    refine lv_aload_n hx hb dL_law_331 rfl (lv_at hl 1 rfl) ?_
    refine lv_aload_n hx hb dL_law_332 rfl (lv_at hl 3 rfl) ?_
    refine lv_iload_n hx hb dL_law_333 rfl (lv_at hl 0 rfl) ?_
    refine lv_iconst (v := 1) hx hb dL_law_334 (by decide) ?_
    refine lv_iadd hx hb dL_law_335 ?_
    refine ct_topi (y := nI (4 * k + 1)) (nI_add (4 * k) 1) ?_
    refine va_sld hx hb hX hbl hbA hS (vp_in_nI (by omega) (by omega)) dL_law_336 ?_
    refine ct_topi (y := x1) (by rw [nI_clamp (by omega)]; exact ex1.symm) ?_
    refine ct_cvc (As := [.int x1]) (rest := [.int (-1)]) (wr := (wM ad cA u.1 dv ib u.2.1 hs ht (nI c0) (nI u.2.2.1) u.2.2.2.1 u.2.2.2.2.1 (nI kd) u.2.2.2.2.2.1 u.2.2.2.2.2.2 Ac ts g lt)) (w1 := (wR an cB Ac g lt ts c0 hs ht (nI kd) pa ib (itN hs ht c0 Ac x1.toNatClampNeg (u.1, ac2, u.2.2.2.2.2.1, u.2.2.2.2.2.2)))) (w0 := (wR an cB Ac g lt ts c0 hs ht (nI kd) pa ib (u.1, ac2, u.2.2.2.2.2.1, u.2.2.2.2.2.2))) ⟨hx, hb, hml, hown, hts⟩ (cN_run l dC dI tt _ an cB Ac g lt ts c0 hs ht (nI kd) pa ib (u.1, ac2, u.2.2.2.2.2.1, u.2.2.2.2.2.2) x1 hc32 hAc (fun h i hi => ((J_run HJ hk ac2 x1 g lt h).1 i hi).2)) (gT_V tw_m_L_38 tw_i_yN_run tw_s_yN_run tw_I_N tw_c_yN_run) ⟨rfl, by decide +kernel, by decide +kernel, (by decide +kernel : (parseMethodDescriptor yN_run.desc).map (fun d => d.parameters.length) = some 1)⟩ ⟨Nat.le_of_ble_eq_true rfl, Nat.le_of_ble_eq_true rfl⟩ (ci := 3) rfl rfl rfl hP hD hK hS hA hT [18, 19, 20, 21, 22, 23, 24] [0, 1, 2, 3, 4, 5, 6, 7, 8, 9, 10, 11, 12, 13, 14, 15, 16, 17] [8, 9, 10, 11, 12, 13] (by decide) rfl rfl (by decide) (by decide) rfl hl.1 rfl (Nat.le_of_ble_eq_true rfl) dL_law_337 ⟨Nat.le_of_ble_eq_true rfl, Nat.le_of_ble_eq_true rfl⟩ (fun c2 H locs hP hD hS => ?_) (fun c2 H locs hP hD hS => ?_)
    · exact absurd c2 c1
    · have hP : va_P (dC, dI) cls ((wM ad cA u.1 dv ib u.2.1 hs ht (nI c0) (nI u.2.2.1) u.2.2.2.1 u.2.2.2.2.1 (nI kd) u.2.2.2.2.2.1 u.2.2.2.2.2.2 Ac ts g lt) ++ (wR an cB Ac g lt ts c0 hs ht (nI kd) pa ib (u.1, ac2, u.2.2.2.2.2.1, u.2.2.2.2.2.2))) H := hP
      have hD : va_D _ ((wM ad cA u.1 dv ib u.2.1 hs ht (nI c0) (nI u.2.2.1) u.2.2.2.1 u.2.2.2.2.1 (nI kd) u.2.2.2.2.2.1 u.2.2.2.2.2.2 Ac ts g lt) ++ (wR an cB Ac g lt ts c0 hs ht (nI kd) pa ib (u.1, ac2, u.2.2.2.2.2.1, u.2.2.2.2.2.2))) := hD
      refine lv_icmp_eq (tgt := 659) hx hb dL_law_340 (by decide) (fun c3 => ?_) (fun c3 => ?_)
      · exact next u dv ib hs ht c0 kd Ac ts g lt pa ac2 _ _ _ (JI.next HJ) hP hD hS (lv_sub hl [0, 1, 2, 3] rfl)
      · exact absurd rfl c3

set_option maxHeartbeats 4000000 in
set_option maxRecDepth 100000 in
theorem lc_sugar (C1 : LC p s m meth c dC dI tt b L xs cA cB) {k : Nat} (h4 : 4 * k + 4 ≤ L) (next : LW p l e s m below meth c dC dI b ad cA an cB 659 (4 * k) (k + 1)) : LW p l e s m below meth c dC dI b ad cA an cB 345 (4 * k) k := by
  obtain ⟨hx, hb, hr, hml, hown, hts, hX, hbl, hlocks, hK, hT, hL⟩ := C1
  have hA : ∀ q : Nat, s.heap.size ≤ q → (fun q : Nat => s.heap.size ≤ q) q := fun _ h => h
  have hbA : ¬ (fun q : Nat => s.heap.size ≤ q) b := Nat.not_le.mpr hbl
  intro u dv ib hs ht c0 kd Ac ts g lt pa ac2 H locs ls HJ hP hD hS hl
  have hk : k ≤ 511 := by omega
  obtain ⟨hkd, hc32, hAc, hTT, hWW⟩ := J_c HJ
  obtain ⟨x1, ex1⟩ : ∃ y : Int32, y = xs (4 * k + 1) := ⟨_, rfl⟩
  refine lv_aload_n hx hb dL_law_345 rfl (lv_at hl 2 rfl) ?_
  refine lv_aload_n hx hb dL_law_346 rfl (lv_at hl 3 rfl) ?_
  refine lv_iload_n hx hb dL_law_347 rfl (lv_at hl 0 rfl) ?_
  refine lv_iconst (v := 1) hx hb dL_law_348 (by decide) ?_
  refine lv_iadd hx hb dL_law_349 ?_
  refine ct_topi (y := nI (4 * k + 1)) (nI_add (4 * k) 1) ?_
  refine va_sld hx hb hX hbl hbA hS (vp_in_nI (by omega) (by omega)) dL_law_350 ?_
  refine ct_topi (y := x1) (by rw [nI_clamp (by omega)]; exact ex1.symm) ?_
  refine ct_cvd (As := [.int x1]) (rest := []) (wr := (wN an cB u.1 u.2.2.2.2.2.2 Ac g lt ts u.2.2.2.2.2.1 (nI c0) hs ht (nI kd) pa ib ac2)) (w1 := (wM ad cA u.1 dv ib u.2.1 hs ht (nI c0) (nI u.2.2.1) u.2.2.2.1 u.2.2.2.2.1 (nI kd) u.2.2.2.2.2.1 u.2.2.2.2.2.2 Ac ts g lt)) ⟨hx, hb, hml, hown, hts⟩ (cM_sugar l dC dI tt _ ad cA u.1 dv ib u.2.1 hs ht (nI c0) (nI u.2.2.1) u.2.2.2.1 u.2.2.2.2.1 (nI kd) u.2.2.2.2.2.1 u.2.2.2.2.2.2 Ac ts g lt x1) (gT_V tw_m_L_39 tw_i_yM_sugar tw_s_yM_sugar tw_I_M tw_c_yM_sugar) ⟨rfl, by decide +kernel, by decide +kernel, (by decide +kernel : (parseMethodDescriptor yM_sugar.desc).map (fun d => d.parameters.length) = some 1)⟩ ⟨Nat.le_of_ble_eq_true rfl, Nat.le_of_ble_eq_true rfl⟩ (ci := 0) rfl rfl rfl hP hD hK hS hA hT [0, 1, 2, 3, 4, 5, 6, 7, 8, 9, 10, 11, 12, 13, 14, 15, 16, 17] [18, 19, 20, 21, 22, 23, 24] [0, 1, 2, 3, 4, 5, 6, 7] (by decide) rfl rfl (by decide) (by decide) rfl hl.1 rfl (Nat.le_of_ble_eq_true rfl) dL_law_351 ⟨Nat.le_of_ble_eq_true rfl, Nat.le_of_ble_eq_true rfl⟩ (fun H locs hP hD hS => ?_)
  have hP := hP.sub (ws' := (wM ad cA u.1 dv ib u.2.1 hs ht (nI c0) (nI u.2.2.1) u.2.2.2.1 u.2.2.2.2.1 (nI kd) u.2.2.2.2.2.1 u.2.2.2.2.2.2 Ac ts g lt) ++ (wN an cB u.1 u.2.2.2.2.2.2 Ac g lt ts u.2.2.2.2.2.1 (nI c0) hs ht (nI kd) pa ib ac2)) [7, 8, 9, 10, 11, 12, 13, 14, 15, 16, 17, 18, 19, 20, 21, 22, 23, 24, 0, 1, 2, 3, 4, 5, 6] rfl
  have hD := hD.sub (ws' := (wM ad cA u.1 dv ib u.2.1 hs ht (nI c0) (nI u.2.2.1) u.2.2.2.1 u.2.2.2.2.1 (nI kd) u.2.2.2.2.2.1 u.2.2.2.2.2.2 Ac ts g lt) ++ (wN an cB u.1 u.2.2.2.2.2.2 Ac g lt ts u.2.2.2.2.2.1 (nI c0) hs ht (nI kd) pa ib ac2)) [7, 8, 9, 10, 11, 12, 13, 14, 15, 16, 17, 18, 19, 20, 21, 22, 23, 24, 0, 1, 2, 3, 4, 5, 6] (by decide) rfl
  refine lv_dstore (lv' := [(4, .double (kdV u.1 3 5 x1)), (3, .int (nI (4 * k))), (2, .ref (an 0)), (1, .ref (ad 0)), (0, .ref b)]) hx hb dL_law_354 hl (by decide) rfl (fun ls hl => ?_)
  refine lv_aload_n hx hb dL_law_356 rfl (lv_at hl 2 rfl) ?_
  refine lv_aload_n hx hb dL_law_357 rfl (lv_at hl 4 rfl) ?_
  refine lv_iload_n hx hb dL_law_358 rfl (lv_at hl 1 rfl) ?_
  refine lv_iconst (v := 1) hx hb dL_law_359 (by decide) ?_
  refine lv_iadd hx hb dL_law_360 ?_
  refine ct_topi (y := nI (4 * k + 1)) (nI_add (4 * k) 1) ?_
  refine va_sld hx hb hX hbl hbA hS (vp_in_nI (by omega) (by omega)) dL_law_361 ?_
  refine ct_topi (y := x1) (by rw [nI_clamp (by omega)]; exact ex1.symm) ?_
  refine ct_cvd (As := [.int x1]) (rest := []) (wr := (wM ad cA u.1 dv ib u.2.1 hs ht (nI c0) (nI u.2.2.1) u.2.2.2.1 u.2.2.2.2.1 (nI kd) u.2.2.2.2.2.1 u.2.2.2.2.2.2 Ac ts g lt)) (w1 := (wN an cB u.1 u.2.2.2.2.2.2 Ac g lt ts u.2.2.2.2.2.1 (nI c0) hs ht (nI kd) pa ib ac2)) ⟨hx, hb, hml, hown, hts⟩ (cN_sugar l dC dI tt _ an cB u.1 u.2.2.2.2.2.2 Ac g lt ts u.2.2.2.2.2.1 (nI c0) hs ht (nI kd) pa ib ac2 x1) (gT_V tw_m_L_43 tw_i_yN_sugar tw_s_yN_sugar tw_I_N tw_c_yN_sugar) ⟨rfl, by decide +kernel, by decide +kernel, (by decide +kernel : (parseMethodDescriptor yN_sugar.desc).map (fun d => d.parameters.length) = some 1)⟩ ⟨Nat.le_of_ble_eq_true rfl, Nat.le_of_ble_eq_true rfl⟩ (ci := 3) rfl rfl rfl hP hD hK hS hA hT [18, 19, 20, 21, 22, 23, 24] [0, 1, 2, 3, 4, 5, 6, 7, 8, 9, 10, 11, 12, 13, 14, 15, 16, 17] [8, 9, 10, 11, 12, 13] (by decide) rfl rfl (by decide) (by decide) rfl hl.1 rfl (Nat.le_of_ble_eq_true rfl) dL_law_362 ⟨Nat.le_of_ble_eq_true rfl, Nat.le_of_ble_eq_true rfl⟩ (fun H locs hP hD hS => ?_)
  have hP : va_P (dC, dI) cls ((wM ad cA u.1 dv ib u.2.1 hs ht (nI c0) (nI u.2.2.1) u.2.2.2.1 u.2.2.2.2.1 (nI kd) u.2.2.2.2.2.1 u.2.2.2.2.2.2 Ac ts g lt) ++ (wN an cB u.1 u.2.2.2.2.2.2 Ac g lt ts u.2.2.2.2.2.1 (nI c0) hs ht (nI kd) pa ib ac2)) H := hP
  have hD : va_D _ ((wM ad cA u.1 dv ib u.2.1 hs ht (nI c0) (nI u.2.2.1) u.2.2.2.1 u.2.2.2.2.1 (nI kd) u.2.2.2.2.2.1 u.2.2.2.2.2.2 Ac ts g lt) ++ (wN an cB u.1 u.2.2.2.2.2.2 Ac g lt ts u.2.2.2.2.2.1 (nI c0) hs ht (nI kd) pa ib ac2)) := hD
  refine lv_dstore (lv' := [(6, .double (kdV u.1 3 5 x1)), (4, .double (kdV u.1 3 5 x1)), (3, .int (nI (4 * k))), (2, .ref (an 0)), (1, .ref (ad 0)), (0, .ref b)]) hx hb dL_law_365 hl (by decide) rfl (fun ls hl => ?_)
  refine lv_dload hx hb dL_law_367 (lv_at hl 1 rfl) ?_
  refine lv_dload hx hb dL_law_369 (lv_at hl 0 rfl) ?_
  refine lv_dcmp hx hb dL_law_371 ?_
  refine lv_if_eq (tgt := 393) hx hb dL_law_372 (by decide) (fun c3 => ?_) (fun c3 => ?_)
  · refine lv_goto (tgt := 659) hx hb dL_law_393 (by decide) ?_
    exact next u dv ib hs ht c0 kd Ac ts g lt pa ac2 _ _ _ (JI.next HJ) hP hD hS (lv_sub hl [2, 3, 4, 5] rfl)
  · exact absurd ((cv_l_eq _).mpr (J_kd HJ (by decide) x1)) c3

set_option maxHeartbeats 4000000 in
set_option maxRecDepth 100000 in
theorem lc_starch (C1 : LC p s m meth c dC dI tt b L xs cA cB) {k : Nat} (h4 : 4 * k + 4 ≤ L) (next : LW p l e s m below meth c dC dI b ad cA an cB 659 (4 * k) (k + 1)) : LW p l e s m below meth c dC dI b ad cA an cB 396 (4 * k) k := by
  obtain ⟨hx, hb, hr, hml, hown, hts, hX, hbl, hlocks, hK, hT, hL⟩ := C1
  have hA : ∀ q : Nat, s.heap.size ≤ q → (fun q : Nat => s.heap.size ≤ q) q := fun _ h => h
  have hbA : ¬ (fun q : Nat => s.heap.size ≤ q) b := Nat.not_le.mpr hbl
  intro u dv ib hs ht c0 kd Ac ts g lt pa ac2 H locs ls HJ hP hD hS hl
  have hk : k ≤ 511 := by omega
  obtain ⟨hkd, hc32, hAc, hTT, hWW⟩ := J_c HJ
  refine lv_aload_n hx hb dL_law_396 rfl (lv_at hl 2 rfl) ?_
  refine ct_cvd (As := []) (rest := []) (wr := (wN an cB u.1 u.2.2.2.2.2.2 Ac g lt ts u.2.2.2.2.2.1 (nI c0) hs ht (nI kd) pa ib ac2)) (w1 := (wM ad cA u.1 dv ib u.2.1 hs ht (nI c0) (nI u.2.2.1) u.2.2.2.1 u.2.2.2.2.1 (nI kd) u.2.2.2.2.2.1 u.2.2.2.2.2.2 Ac ts g lt)) ⟨hx, hb, hml, hown, hts⟩ (cM_starch l dC dI tt _ ad cA u.1 dv ib u.2.1 hs ht (nI c0) (nI u.2.2.1) u.2.2.2.1 u.2.2.2.2.1 (nI kd) u.2.2.2.2.2.1 u.2.2.2.2.2.2 Ac ts g lt (J_starch HJ hk).1) (gT_V tw_m_L_44 tw_i_yM_starch tw_s_yM_starch tw_I_M tw_c_yM_starch) ⟨rfl, by decide +kernel, by decide +kernel, (by decide +kernel : (parseMethodDescriptor yM_starch.desc).map (fun d => d.parameters.length) = some 0)⟩ ⟨Nat.le_of_ble_eq_true rfl, Nat.le_of_ble_eq_true rfl⟩ (ci := 0) rfl rfl rfl hP hD hK hS hA hT [0, 1, 2, 3, 4, 5, 6, 7, 8, 9, 10, 11, 12, 13, 14, 15, 16, 17] [18, 19, 20, 21, 22, 23, 24] [0, 1, 2, 3, 4, 5, 6, 7] (by decide) rfl rfl (by decide) (by decide) rfl hl.1 rfl (Nat.le_of_ble_eq_true rfl) dL_law_397 ⟨Nat.le_of_ble_eq_true rfl, Nat.le_of_ble_eq_true rfl⟩ (fun H locs hP hD hS => ?_)
  have hP := hP.sub (ws' := (wM ad cA u.1 dv ib u.2.1 hs ht (nI c0) (nI u.2.2.1) u.2.2.2.1 u.2.2.2.2.1 (nI kd) u.2.2.2.2.2.1 u.2.2.2.2.2.2 Ac ts g lt) ++ (wN an cB u.1 u.2.2.2.2.2.2 Ac g lt ts u.2.2.2.2.2.1 (nI c0) hs ht (nI kd) pa ib ac2)) [7, 8, 9, 10, 11, 12, 13, 14, 15, 16, 17, 18, 19, 20, 21, 22, 23, 24, 0, 1, 2, 3, 4, 5, 6] rfl
  have hD := hD.sub (ws' := (wM ad cA u.1 dv ib u.2.1 hs ht (nI c0) (nI u.2.2.1) u.2.2.2.1 u.2.2.2.2.1 (nI kd) u.2.2.2.2.2.1 u.2.2.2.2.2.2 Ac ts g lt) ++ (wN an cB u.1 u.2.2.2.2.2.2 Ac g lt ts u.2.2.2.2.2.1 (nI c0) hs ht (nI kd) pa ib ac2)) [7, 8, 9, 10, 11, 12, 13, 14, 15, 16, 17, 18, 19, 20, 21, 22, 23, 24, 0, 1, 2, 3, 4, 5, 6] (by decide) rfl
  refine lv_dstore (lv' := [(4, .double (FP.dadd (u.1 1) (u.1 2))), (3, .int (nI (4 * k))), (2, .ref (an 0)), (1, .ref (ad 0)), (0, .ref b)]) hx hb dL_law_400 hl (by decide) rfl (fun ls hl => ?_)
  refine lv_aload_n hx hb dL_law_402 rfl (lv_at hl 2 rfl) ?_
  refine ct_cvd (As := []) (rest := []) (wr := (wM ad cA u.1 dv ib u.2.1 hs ht (nI c0) (nI u.2.2.1) u.2.2.2.1 u.2.2.2.2.1 (nI kd) u.2.2.2.2.2.1 u.2.2.2.2.2.2 Ac ts g lt)) (w1 := (wN an cB u.1 u.2.2.2.2.2.2 Ac g lt ts u.2.2.2.2.2.1 (nI c0) hs ht (nI kd) pa ib ac2)) ⟨hx, hb, hml, hown, hts⟩ (cN_starch l dC dI tt _ an cB u.1 u.2.2.2.2.2.2 Ac g lt ts u.2.2.2.2.2.1 (nI c0) hs ht (nI kd) pa ib ac2 (J_starch HJ hk).1) (gT_V tw_m_L_48 tw_i_yN_starch tw_s_yN_starch tw_I_N tw_c_yN_starch) ⟨rfl, by decide +kernel, by decide +kernel, (by decide +kernel : (parseMethodDescriptor yN_starch.desc).map (fun d => d.parameters.length) = some 0)⟩ ⟨Nat.le_of_ble_eq_true rfl, Nat.le_of_ble_eq_true rfl⟩ (ci := 3) rfl rfl rfl hP hD hK hS hA hT [18, 19, 20, 21, 22, 23, 24] [0, 1, 2, 3, 4, 5, 6, 7, 8, 9, 10, 11, 12, 13, 14, 15, 16, 17] [8, 9, 10, 11, 12, 13] (by decide) rfl rfl (by decide) (by decide) rfl hl.1 rfl (Nat.le_of_ble_eq_true rfl) dL_law_403 ⟨Nat.le_of_ble_eq_true rfl, Nat.le_of_ble_eq_true rfl⟩ (fun H locs hP hD hS => ?_)
  have hP : va_P (dC, dI) cls ((wM ad cA u.1 dv ib u.2.1 hs ht (nI c0) (nI u.2.2.1) u.2.2.2.1 u.2.2.2.2.1 (nI kd) u.2.2.2.2.2.1 u.2.2.2.2.2.2 Ac ts g lt) ++ (wN an cB u.1 u.2.2.2.2.2.2 Ac g lt ts u.2.2.2.2.2.1 (nI c0) hs ht (nI kd) pa ib ac2)) H := hP
  have hD : va_D _ ((wM ad cA u.1 dv ib u.2.1 hs ht (nI c0) (nI u.2.2.1) u.2.2.2.1 u.2.2.2.2.1 (nI kd) u.2.2.2.2.2.1 u.2.2.2.2.2.2 Ac ts g lt) ++ (wN an cB u.1 u.2.2.2.2.2.2 Ac g lt ts u.2.2.2.2.2.1 (nI c0) hs ht (nI kd) pa ib ac2)) := hD
  refine lv_dstore (lv' := [(6, .double (FP.dadd (u.1 1) (u.1 2))), (4, .double (FP.dadd (u.1 1) (u.1 2))), (3, .int (nI (4 * k))), (2, .ref (an 0)), (1, .ref (ad 0)), (0, .ref b)]) hx hb dL_law_406 hl (by decide) rfl (fun ls hl => ?_)
  refine lv_dload hx hb dL_law_408 (lv_at hl 1 rfl) ?_
  refine lv_dload hx hb dL_law_410 (lv_at hl 0 rfl) ?_
  refine lv_dcmp hx hb dL_law_412 ?_
  refine lv_if_eq (tgt := 434) hx hb dL_law_413 (by decide) (fun c3 => ?_) (fun c3 => ?_)
  · refine lv_goto (tgt := 659) hx hb dL_law_434 (by decide) ?_
    exact next u dv ib hs ht c0 kd Ac ts g lt pa ac2 _ _ _ (JI.next HJ) hP hD hS (lv_sub hl [2, 3, 4, 5] rfl)
  · exact absurd ((cv_l_eq _).mpr (J_s HJ hk)) c3

set_option maxHeartbeats 4000000 in
set_option maxRecDepth 100000 in
theorem lc_left (C1 : LC p s m meth c dC dI tt b L xs cA cB) {k : Nat} (h4 : 4 * k + 4 ≤ L) (next : LW p l e s m below meth c dC dI b ad cA an cB 659 (4 * k) (k + 1)) : LW p l e s m below meth c dC dI b ad cA an cB 437 (4 * k) k := by
  obtain ⟨hx, hb, hr, hml, hown, hts, hX, hbl, hlocks, hK, hT, hL⟩ := C1
  have hA : ∀ q : Nat, s.heap.size ≤ q → (fun q : Nat => s.heap.size ≤ q) q := fun _ h => h
  have hbA : ¬ (fun q : Nat => s.heap.size ≤ q) b := Nat.not_le.mpr hbl
  intro u dv ib hs ht c0 kd Ac ts g lt pa ac2 H locs ls HJ hP hD hS hl
  have hk : k ≤ 511 := by omega
  obtain ⟨hkd, hc32, hAc, hTT, hWW⟩ := J_c HJ
  obtain ⟨x1, ex1⟩ : ∃ y : Int32, y = xs (4 * k + 1) := ⟨_, rfl⟩
  refine lv_aload_n hx hb dL_law_437 rfl (lv_at hl 2 rfl) ?_
  refine lv_aload_n hx hb dL_law_438 rfl (lv_at hl 3 rfl) ?_
  refine lv_iload_n hx hb dL_law_439 rfl (lv_at hl 0 rfl) ?_
  refine lv_iconst (v := 1) hx hb dL_law_440 (by decide) ?_
  refine lv_iadd hx hb dL_law_441 ?_
  refine ct_topi (y := nI (4 * k + 1)) (nI_add (4 * k) 1) ?_
  refine va_sld hx hb hX hbl hbA hS (vp_in_nI (by omega) (by omega)) dL_law_442 ?_
  refine ct_topi (y := x1) (by rw [nI_clamp (by omega)]; exact ex1.symm) ?_
  refine ct_cvd (As := [.int x1]) (rest := []) (wr := (wN an cB u.1 u.2.2.2.2.2.2 Ac g lt ts u.2.2.2.2.2.1 (nI c0) hs ht (nI kd) pa ib ac2)) (w1 := (wM ad cA u.1 dv ib u.2.1 hs ht (nI c0) (nI u.2.2.1) u.2.2.2.1 u.2.2.2.2.1 (nI kd) u.2.2.2.2.2.1 u.2.2.2.2.2.2 Ac ts g lt)) ⟨hx, hb, hml, hown, hts⟩ (cM_enzymeLeft l dC dI tt _ ad cA u.1 dv ib u.2.1 hs ht (nI c0) (nI u.2.2.1) u.2.2.2.1 u.2.2.2.2.1 (nI kd) u.2.2.2.2.2.1 u.2.2.2.2.2.2 Ac ts g lt x1) (gT_V tw_m_L_49 tw_i_yM_enzymeLeft tw_s_yM_enzymeLeft tw_I_M tw_c_yM_enzymeLeft) ⟨rfl, by decide +kernel, by decide +kernel, (by decide +kernel : (parseMethodDescriptor yM_enzymeLeft.desc).map (fun d => d.parameters.length) = some 1)⟩ ⟨Nat.le_of_ble_eq_true rfl, Nat.le_of_ble_eq_true rfl⟩ (ci := 0) rfl rfl rfl hP hD hK hS hA hT [0, 1, 2, 3, 4, 5, 6, 7, 8, 9, 10, 11, 12, 13, 14, 15, 16, 17] [18, 19, 20, 21, 22, 23, 24] [0, 1, 2, 3, 4, 5, 6, 7] (by decide) rfl rfl (by decide) (by decide) rfl hl.1 rfl (Nat.le_of_ble_eq_true rfl) dL_law_443 ⟨Nat.le_of_ble_eq_true rfl, Nat.le_of_ble_eq_true rfl⟩ (fun H locs hP hD hS => ?_)
  have hP := hP.sub (ws' := (wM ad cA u.1 dv ib u.2.1 hs ht (nI c0) (nI u.2.2.1) u.2.2.2.1 u.2.2.2.2.1 (nI kd) u.2.2.2.2.2.1 u.2.2.2.2.2.2 Ac ts g lt) ++ (wN an cB u.1 u.2.2.2.2.2.2 Ac g lt ts u.2.2.2.2.2.1 (nI c0) hs ht (nI kd) pa ib ac2)) [7, 8, 9, 10, 11, 12, 13, 14, 15, 16, 17, 18, 19, 20, 21, 22, 23, 24, 0, 1, 2, 3, 4, 5, 6] rfl
  have hD := hD.sub (ws' := (wM ad cA u.1 dv ib u.2.1 hs ht (nI c0) (nI u.2.2.1) u.2.2.2.1 u.2.2.2.2.1 (nI kd) u.2.2.2.2.2.1 u.2.2.2.2.2.2 Ac ts g lt) ++ (wN an cB u.1 u.2.2.2.2.2.2 Ac g lt ts u.2.2.2.2.2.1 (nI c0) hs ht (nI kd) pa ib ac2)) [7, 8, 9, 10, 11, 12, 13, 14, 15, 16, 17, 18, 19, 20, 21, 22, 23, 24, 0, 1, 2, 3, 4, 5, 6] (by decide) rfl
  refine lv_dstore (lv' := [(4, .double (kdV u.1 9 4 x1)), (3, .int (nI (4 * k))), (2, .ref (an 0)), (1, .ref (ad 0)), (0, .ref b)]) hx hb dL_law_446 hl (by decide) rfl (fun ls hl => ?_)
  refine lv_aload_n hx hb dL_law_448 rfl (lv_at hl 2 rfl) ?_
  refine lv_aload_n hx hb dL_law_449 rfl (lv_at hl 4 rfl) ?_
  refine lv_iload_n hx hb dL_law_450 rfl (lv_at hl 1 rfl) ?_
  refine lv_iconst (v := 1) hx hb dL_law_451 (by decide) ?_
  refine lv_iadd hx hb dL_law_452 ?_
  refine ct_topi (y := nI (4 * k + 1)) (nI_add (4 * k) 1) ?_
  refine va_sld hx hb hX hbl hbA hS (vp_in_nI (by omega) (by omega)) dL_law_453 ?_
  refine ct_topi (y := x1) (by rw [nI_clamp (by omega)]; exact ex1.symm) ?_
  refine ct_cvd (As := [.int x1]) (rest := []) (wr := (wM ad cA u.1 dv ib u.2.1 hs ht (nI c0) (nI u.2.2.1) u.2.2.2.1 u.2.2.2.2.1 (nI kd) u.2.2.2.2.2.1 u.2.2.2.2.2.2 Ac ts g lt)) (w1 := (wN an cB u.1 u.2.2.2.2.2.2 Ac g lt ts u.2.2.2.2.2.1 (nI c0) hs ht (nI kd) pa ib ac2)) ⟨hx, hb, hml, hown, hts⟩ (cN_enzymeLeft l dC dI tt _ an cB u.1 u.2.2.2.2.2.2 Ac g lt ts u.2.2.2.2.2.1 (nI c0) hs ht (nI kd) pa ib ac2 x1) (gT_V tw_m_L_52 tw_i_yN_enzymeLeft tw_s_yN_enzymeLeft tw_I_N tw_c_yN_enzymeLeft) ⟨rfl, by decide +kernel, by decide +kernel, (by decide +kernel : (parseMethodDescriptor yN_enzymeLeft.desc).map (fun d => d.parameters.length) = some 1)⟩ ⟨Nat.le_of_ble_eq_true rfl, Nat.le_of_ble_eq_true rfl⟩ (ci := 3) rfl rfl rfl hP hD hK hS hA hT [18, 19, 20, 21, 22, 23, 24] [0, 1, 2, 3, 4, 5, 6, 7, 8, 9, 10, 11, 12, 13, 14, 15, 16, 17] [8, 9, 10, 11, 12, 13] (by decide) rfl rfl (by decide) (by decide) rfl hl.1 rfl (Nat.le_of_ble_eq_true rfl) dL_law_454 ⟨Nat.le_of_ble_eq_true rfl, Nat.le_of_ble_eq_true rfl⟩ (fun H locs hP hD hS => ?_)
  have hP : va_P (dC, dI) cls ((wM ad cA u.1 dv ib u.2.1 hs ht (nI c0) (nI u.2.2.1) u.2.2.2.1 u.2.2.2.2.1 (nI kd) u.2.2.2.2.2.1 u.2.2.2.2.2.2 Ac ts g lt) ++ (wN an cB u.1 u.2.2.2.2.2.2 Ac g lt ts u.2.2.2.2.2.1 (nI c0) hs ht (nI kd) pa ib ac2)) H := hP
  have hD : va_D _ ((wM ad cA u.1 dv ib u.2.1 hs ht (nI c0) (nI u.2.2.1) u.2.2.2.1 u.2.2.2.2.1 (nI kd) u.2.2.2.2.2.1 u.2.2.2.2.2.2 Ac ts g lt) ++ (wN an cB u.1 u.2.2.2.2.2.2 Ac g lt ts u.2.2.2.2.2.1 (nI c0) hs ht (nI kd) pa ib ac2)) := hD
  refine lv_dstore (lv' := [(6, .double (kdV u.1 9 4 x1)), (4, .double (kdV u.1 9 4 x1)), (3, .int (nI (4 * k))), (2, .ref (an 0)), (1, .ref (ad 0)), (0, .ref b)]) hx hb dL_law_457 hl (by decide) rfl (fun ls hl => ?_)
  refine lv_dload hx hb dL_law_459 (lv_at hl 1 rfl) ?_
  refine lv_dload hx hb dL_law_461 (lv_at hl 0 rfl) ?_
  refine lv_dcmp hx hb dL_law_463 ?_
  refine lv_if_eq (tgt := 485) hx hb dL_law_464 (by decide) (fun c3 => ?_) (fun c3 => ?_)
  · refine lv_goto (tgt := 659) hx hb dL_law_485 (by decide) ?_
    exact next u dv ib hs ht c0 kd Ac ts g lt pa ac2 _ _ _ (JI.next HJ) hP hD hS (lv_sub hl [2, 3, 4, 5] rfl)
  · exact absurd ((cv_l_eq _).mpr (J_kd HJ (by decide) x1)) c3

set_option maxHeartbeats 4000000 in
set_option maxRecDepth 100000 in
theorem lc_degrees (C1 : LC p s m meth c dC dI tt b L xs cA cB) {k : Nat} (h4 : 4 * k + 4 ≤ L) (next : LW p l e s m below meth c dC dI b ad cA an cB 659 (4 * k) (k + 1)) : LW p l e s m below meth c dC dI b ad cA an cB 488 (4 * k) k := by
  obtain ⟨hx, hb, hr, hml, hown, hts, hX, hbl, hlocks, hK, hT, hL⟩ := C1
  have hA : ∀ q : Nat, s.heap.size ≤ q → (fun q : Nat => s.heap.size ≤ q) q := fun _ h => h
  have hbA : ¬ (fun q : Nat => s.heap.size ≤ q) b := Nat.not_le.mpr hbl
  intro u dv ib hs ht c0 kd Ac ts g lt pa ac2 H locs ls HJ hP hD hS hl
  have hk : k ≤ 511 := by omega
  obtain ⟨hkd, hc32, hAc, hTT, hWW⟩ := J_c HJ
  refine lv_aload_n hx hb dL_law_488 rfl (lv_at hl 2 rfl) ?_
  refine ct_cvd (As := []) (rest := []) (wr := (wN an cB u.1 u.2.2.2.2.2.2 Ac g lt ts u.2.2.2.2.2.1 (nI c0) hs ht (nI kd) pa ib ac2)) (w1 := (wM ad cA u.1 dv ib u.2.1 hs ht (nI c0) (nI u.2.2.1) u.2.2.2.1 u.2.2.2.2.1 (nI kd) u.2.2.2.2.2.1 u.2.2.2.2.2.2 Ac ts g lt)) ⟨hx, hb, hml, hown, hts⟩ (cM_degrees l dC dI tt _ ad cA u.1 dv ib u.2.1 hs ht (nI c0) (nI u.2.2.1) u.2.2.2.1 u.2.2.2.2.1 (nI kd) u.2.2.2.2.2.1 u.2.2.2.2.2.2 Ac ts g lt ) (gT_V tw_m_L_53 tw_i_yM_degrees tw_s_yM_degrees tw_I_M tw_c_yM_degrees) ⟨rfl, by decide +kernel, by decide +kernel, (by decide +kernel : (parseMethodDescriptor yM_degrees.desc).map (fun d => d.parameters.length) = some 0)⟩ ⟨Nat.le_of_ble_eq_true rfl, Nat.le_of_ble_eq_true rfl⟩ (ci := 0) rfl rfl rfl hP hD hK hS hA hT [0, 1, 2, 3, 4, 5, 6, 7, 8, 9, 10, 11, 12, 13, 14, 15, 16, 17] [18, 19, 20, 21, 22, 23, 24] [0, 1, 2, 3, 4, 5, 6, 7] (by decide) rfl rfl (by decide) (by decide) rfl hl.1 rfl (Nat.le_of_ble_eq_true rfl) dL_law_489 ⟨Nat.le_of_ble_eq_true rfl, Nat.le_of_ble_eq_true rfl⟩ (fun H locs hP hD hS => ?_)
  have hP := hP.sub (ws' := (wM ad cA u.1 dv ib u.2.1 hs ht (nI c0) (nI u.2.2.1) u.2.2.2.1 u.2.2.2.2.1 (nI kd) u.2.2.2.2.2.1 u.2.2.2.2.2.2 Ac ts g lt) ++ (wN an cB u.1 u.2.2.2.2.2.2 Ac g lt ts u.2.2.2.2.2.1 (nI c0) hs ht (nI kd) pa ib ac2)) [7, 8, 9, 10, 11, 12, 13, 14, 15, 16, 17, 18, 19, 20, 21, 22, 23, 24, 0, 1, 2, 3, 4, 5, 6] rfl
  have hD := hD.sub (ws' := (wM ad cA u.1 dv ib u.2.1 hs ht (nI c0) (nI u.2.2.1) u.2.2.2.1 u.2.2.2.2.1 (nI kd) u.2.2.2.2.2.1 u.2.2.2.2.2.2 Ac ts g lt) ++ (wN an cB u.1 u.2.2.2.2.2.2 Ac g lt ts u.2.2.2.2.2.1 (nI c0) hs ht (nI kd) pa ib ac2)) [7, 8, 9, 10, 11, 12, 13, 14, 15, 16, 17, 18, 19, 20, 21, 22, 23, 24, 0, 1, 2, 3, 4, 5, 6] (by decide) rfl
  refine lv_dstore (lv' := [(4, .double u.2.2.2.2.2.2), (3, .int (nI (4 * k))), (2, .ref (an 0)), (1, .ref (ad 0)), (0, .ref b)]) hx hb dL_law_492 hl (by decide) rfl (fun ls hl => ?_)
  refine lv_aload_n hx hb dL_law_494 rfl (lv_at hl 2 rfl) ?_
  refine ct_cvd (As := []) (rest := []) (wr := (wM ad cA u.1 dv ib u.2.1 hs ht (nI c0) (nI u.2.2.1) u.2.2.2.1 u.2.2.2.2.1 (nI kd) u.2.2.2.2.2.1 u.2.2.2.2.2.2 Ac ts g lt)) (w1 := (wN an cB u.1 u.2.2.2.2.2.2 Ac g lt ts u.2.2.2.2.2.1 (nI c0) hs ht (nI kd) pa ib ac2)) ⟨hx, hb, hml, hown, hts⟩ (cN_degrees l dC dI tt _ an cB u.1 u.2.2.2.2.2.2 Ac g lt ts u.2.2.2.2.2.1 (nI c0) hs ht (nI kd) pa ib ac2 ) (gT_V tw_m_L_56 tw_i_yN_degrees tw_s_yN_degrees tw_I_N tw_c_yN_degrees) ⟨rfl, by decide +kernel, by decide +kernel, (by decide +kernel : (parseMethodDescriptor yN_degrees.desc).map (fun d => d.parameters.length) = some 0)⟩ ⟨Nat.le_of_ble_eq_true rfl, Nat.le_of_ble_eq_true rfl⟩ (ci := 3) rfl rfl rfl hP hD hK hS hA hT [18, 19, 20, 21, 22, 23, 24] [0, 1, 2, 3, 4, 5, 6, 7, 8, 9, 10, 11, 12, 13, 14, 15, 16, 17] [8, 9, 10, 11, 12, 13] (by decide) rfl rfl (by decide) (by decide) rfl hl.1 rfl (Nat.le_of_ble_eq_true rfl) dL_law_495 ⟨Nat.le_of_ble_eq_true rfl, Nat.le_of_ble_eq_true rfl⟩ (fun H locs hP hD hS => ?_)
  have hP : va_P (dC, dI) cls ((wM ad cA u.1 dv ib u.2.1 hs ht (nI c0) (nI u.2.2.1) u.2.2.2.1 u.2.2.2.2.1 (nI kd) u.2.2.2.2.2.1 u.2.2.2.2.2.2 Ac ts g lt) ++ (wN an cB u.1 u.2.2.2.2.2.2 Ac g lt ts u.2.2.2.2.2.1 (nI c0) hs ht (nI kd) pa ib ac2)) H := hP
  have hD : va_D _ ((wM ad cA u.1 dv ib u.2.1 hs ht (nI c0) (nI u.2.2.1) u.2.2.2.1 u.2.2.2.2.1 (nI kd) u.2.2.2.2.2.1 u.2.2.2.2.2.2 Ac ts g lt) ++ (wN an cB u.1 u.2.2.2.2.2.2 Ac g lt ts u.2.2.2.2.2.1 (nI c0) hs ht (nI kd) pa ib ac2)) := hD
  refine lv_dstore (lv' := [(6, .double u.2.2.2.2.2.2), (4, .double u.2.2.2.2.2.2), (3, .int (nI (4 * k))), (2, .ref (an 0)), (1, .ref (ad 0)), (0, .ref b)]) hx hb dL_law_498 hl (by decide) rfl (fun ls hl => ?_)
  refine lv_dload hx hb dL_law_500 (lv_at hl 1 rfl) ?_
  refine lv_dload hx hb dL_law_502 (lv_at hl 0 rfl) ?_
  refine lv_dcmp hx hb dL_law_504 ?_
  refine lv_if_eq (tgt := 526) hx hb dL_law_505 (by decide) (fun c3 => ?_) (fun c3 => ?_)
  · refine lv_goto (tgt := 659) hx hb dL_law_526 (by decide) ?_
    exact next u dv ib hs ht c0 kd Ac ts g lt pa ac2 _ _ _ (JI.next HJ) hP hD hS (lv_sub hl [2, 3, 4, 5] rfl)
  · exact absurd ((cv_l_eq _).mpr (hTT)) c3

set_option maxHeartbeats 4000000 in
set_option maxRecDepth 100000 in
theorem lc_take (C1 : LC p s m meth c dC dI tt b L xs cA cB) {k : Nat} (h4 : 4 * k + 4 ≤ L) (next : LW p l e s m below meth c dC dI b ad cA an cB 659 (4 * k) (k + 1)) : LW p l e s m below meth c dC dI b ad cA an cB 529 (4 * k) k := by
  obtain ⟨hx, hb, hr, hml, hown, hts, hX, hbl, hlocks, hK, hT, hL⟩ := C1
  have hA : ∀ q : Nat, s.heap.size ≤ q → (fun q : Nat => s.heap.size ≤ q) q := fun _ h => h
  have hbA : ¬ (fun q : Nat => s.heap.size ≤ q) b := Nat.not_le.mpr hbl
  intro u dv ib hs ht c0 kd Ac ts g lt pa ac2 H locs ls HJ hP hD hS hl
  have hk : k ≤ 511 := by omega
  obtain ⟨hkd, hc32, hAc, hTT, hWW⟩ := J_c HJ
  obtain ⟨x1, ex1⟩ : ∃ y : Int32, y = xs (4 * k + 1) := ⟨_, rfl⟩
  refine lv_aload_n hx hb dL_law_529 rfl (lv_at hl 2 rfl) ?_
  refine lv_aload_n hx hb dL_law_530 rfl (lv_at hl 3 rfl) ?_
  refine lv_iload_n hx hb dL_law_531 rfl (lv_at hl 0 rfl) ?_
  refine lv_iconst (v := 1) hx hb dL_law_532 (by decide) ?_
  refine lv_iadd hx hb dL_law_533 ?_
  refine ct_topi (y := nI (4 * k + 1)) (nI_add (4 * k) 1) ?_
  refine va_sld hx hb hX hbl hbA hS (vp_in_nI (by omega) (by omega)) dL_law_534 ?_
  refine ct_topi (y := x1) (by rw [nI_clamp (by omega)]; exact ex1.symm) ?_
  refine lv_i2d hx hb dL_law_535 ?_
  refine lv_ldc2d hx hb hown (hts _ tw_d_L_13) dL_law_536 ?_
  refine lv_dmul hx hb dL_law_539 (ag_vf x1) ?_
  refine ct_topd (y := ag x1) (rfl) ?_
  refine ct_cvc (As := [.double (ag x1)]) (rest := []) (wr := (wN an cB u.1 u.2.2.2.2.2.2 Ac g lt ts u.2.2.2.2.2.1 (nI c0) hs ht (nI kd) pa ib ac2)) (w1 := (wM ad cA (tkA u.1 (ag x1) 13) (va_up dv kd (tkD u.1 (ag x1) 13 (dv kd))) ib u.2.1 hs ht (nI c0) (nI u.2.2.1) u.2.2.2.1 u.2.2.2.2.1 (nI (kd + 1)) u.2.2.2.2.2.1 u.2.2.2.2.2.2 Ac ts g lt)) (w0 := (wM ad cA u.1 dv ib u.2.1 hs ht (nI c0) (nI u.2.2.1) u.2.2.2.1 u.2.2.2.2.1 (nI kd) u.2.2.2.2.2.1 u.2.2.2.2.2.2 Ac ts g lt)) ⟨hx, hb, hml, hown, hts⟩ (cM_take l dC dI tt _ ad cA u.1 dv ib u.2.1 hs ht (nI c0) (nI u.2.2.1) u.2.2.2.1 u.2.2.2.2.1 kd u.2.2.2.2.2.1 u.2.2.2.2.2.2 Ac ts g lt (ag x1) hkd (fun h => (J_take HJ x1 g lt h).1)) (gT_V tw_m_L_57 tw_i_yM_take tw_s_yM_take tw_I_M tw_c_yM_take) ⟨rfl, by decide +kernel, by decide +kernel, (by decide +kernel : (parseMethodDescriptor yM_take.desc).map (fun d => d.parameters.length) = some 1)⟩ ⟨Nat.le_of_ble_eq_true rfl, Nat.le_of_ble_eq_true rfl⟩ (ci := 0) rfl rfl rfl hP hD hK hS hA hT [0, 1, 2, 3, 4, 5, 6, 7, 8, 9, 10, 11, 12, 13, 14, 15, 16, 17] [18, 19, 20, 21, 22, 23, 24] [0, 1, 2, 3, 4, 5, 6, 7] (by decide) rfl rfl (by decide) (by decide) rfl hl.1 rfl (Nat.le_of_ble_eq_true rfl) dL_law_540 ⟨Nat.le_of_ble_eq_true rfl, Nat.le_of_ble_eq_true rfl⟩ (fun c1 H locs hP hD hS => ?_) (fun c1 H locs hP hD hS => ?_)
  · have hP := hP.sub (ws' := (wM ad cA (tkA u.1 (ag x1) 13) (va_up dv kd (tkD u.1 (ag x1) 13 (dv kd))) ib u.2.1 hs ht (nI c0) (nI u.2.2.1) u.2.2.2.1 u.2.2.2.2.1 (nI (kd + 1)) u.2.2.2.2.2.1 u.2.2.2.2.2.2 Ac ts g lt) ++ (wN an cB u.1 u.2.2.2.2.2.2 Ac g lt ts u.2.2.2.2.2.1 (nI c0) hs ht (nI kd) pa ib ac2)) [7, 8, 9, 10, 11, 12, 13, 14, 15, 16, 17, 18, 19, 20, 21, 22, 23, 24, 0, 1, 2, 3, 4, 5, 6] rfl
    have hD := hD.sub (ws' := (wM ad cA (tkA u.1 (ag x1) 13) (va_up dv kd (tkD u.1 (ag x1) 13 (dv kd))) ib u.2.1 hs ht (nI c0) (nI u.2.2.1) u.2.2.2.1 u.2.2.2.2.1 (nI (kd + 1)) u.2.2.2.2.2.1 u.2.2.2.2.2.2 Ac ts g lt) ++ (wN an cB u.1 u.2.2.2.2.2.2 Ac g lt ts u.2.2.2.2.2.1 (nI c0) hs ht (nI kd) pa ib ac2)) [7, 8, 9, 10, 11, 12, 13, 14, 15, 16, 17, 18, 19, 20, 21, 22, 23, 24, 0, 1, 2, 3, 4, 5, 6] (by decide) rfl
    refine lv_aload_n hx hb dL_law_543 rfl (lv_at hl 1 rfl) ?_
    refine lv_aload_n hx hb dL_law_544 rfl (lv_at hl 3 rfl) ?_
    refine lv_iload_n hx hb dL_law_545 rfl (lv_at hl 0 rfl) ?_
    refine lv_iconst (v := 1) hx hb dL_law_546 (by decide) ?_
    refine lv_iadd hx hb dL_law_547 ?_
    refine ct_topi (y := nI (4 * k + 1)) (nI_add (4 * k) 1) ?_
    refine va_sld hx hb hX hbl hbA hS (vp_in_nI (by omega) (by omega)) dL_law_548 ?_
    refine ct_topi (y := x1) (by rw [nI_clamp (by omega)]; exact ex1.symm) ?_
    refine lv_i2d hx hb dL_law_549 ?_
    refine lv_ldc2d hx hb hown (hts _ tw_d_L_13) dL_law_550 ?_
    refine lv_dmul hx hb dL_law_553 (ag_vf x1) ?_
    refine ct_topd (y := ag x1) (rfl) ?_
    refine ct_cvc (As := [.double (ag x1)]) (rest := [.int (nI kd)]) (wr := (wM ad cA (tkA u.1 (ag x1) 13) (va_up dv kd (tkD u.1 (ag x1) 13 (dv kd))) ib u.2.1 hs ht (nI c0) (nI u.2.2.1) u.2.2.2.1 u.2.2.2.2.1 (nI (kd + 1)) u.2.2.2.2.2.1 u.2.2.2.2.2.2 Ac ts g lt)) (w1 := (wN an cB (tkA u.1 (ag x1) 13) u.2.2.2.2.2.2 Ac g lt ts u.2.2.2.2.2.1 (nI c0) hs ht (nI (kd + 1)) (tkP u.1 (ag x1) kd 13 pa) (upd ib kd 0) ac2)) (w0 := (wN an cB u.1 u.2.2.2.2.2.2 Ac g lt ts u.2.2.2.2.2.1 (nI c0) hs ht (nI kd) pa ib ac2)) ⟨hx, hb, hml, hown, hts⟩ (cN_take l dC dI tt _ an cB u.1 u.2.2.2.2.2.2 Ac g lt ts u.2.2.2.2.2.1 (nI c0) hs ht kd pa ib ac2 (ag x1) (ag_no x1) hkd (fun h => (J_take HJ x1 g lt h).1)) (gT_V tw_m_L_61 tw_i_yN_take tw_s_yN_take tw_I_N tw_c_yN_take) ⟨rfl, by decide +kernel, by decide +kernel, (by decide +kernel : (parseMethodDescriptor yN_take.desc).map (fun d => d.parameters.length) = some 1)⟩ ⟨Nat.le_of_ble_eq_true rfl, Nat.le_of_ble_eq_true rfl⟩ (ci := 3) rfl rfl rfl hP hD hK hS hA hT [18, 19, 20, 21, 22, 23, 24] [0, 1, 2, 3, 4, 5, 6, 7, 8, 9, 10, 11, 12, 13, 14, 15, 16, 17] [8, 9, 10, 11, 12, 13] (by decide) rfl rfl (by decide) (by decide) rfl hl.1 rfl (Nat.le_of_ble_eq_true rfl) dL_law_554 ⟨Nat.le_of_ble_eq_true rfl, Nat.le_of_ble_eq_true rfl⟩ (fun c2 H locs hP hD hS => ?_) (fun c2 H locs hP hD hS => ?_)
    · have hP : va_P (dC, dI) cls ((wM ad cA (tkA u.1 (ag x1) 13) (va_up dv kd (tkD u.1 (ag x1) 13 (dv kd))) ib u.2.1 hs ht (nI c0) (nI u.2.2.1) u.2.2.2.1 u.2.2.2.2.1 (nI (kd + 1)) u.2.2.2.2.2.1 u.2.2.2.2.2.2 Ac ts g lt) ++ (wN an cB (tkA u.1 (ag x1) 13) u.2.2.2.2.2.2 Ac g lt ts u.2.2.2.2.2.1 (nI c0) hs ht (nI (kd + 1)) (tkP u.1 (ag x1) kd 13 pa) (upd ib kd 0) ac2)) H := hP
      have hD : va_D _ ((wM ad cA (tkA u.1 (ag x1) 13) (va_up dv kd (tkD u.1 (ag x1) 13 (dv kd))) ib u.2.1 hs ht (nI c0) (nI u.2.2.1) u.2.2.2.1 u.2.2.2.2.1 (nI (kd + 1)) u.2.2.2.2.2.1 u.2.2.2.2.2.2 Ac ts g lt) ++ (wN an cB (tkA u.1 (ag x1) 13) u.2.2.2.2.2.2 Ac g lt ts u.2.2.2.2.2.1 (nI c0) hs ht (nI (kd + 1)) (tkP u.1 (ag x1) kd 13 pa) (upd ib kd 0) ac2)) := hD
      refine lv_icmp_eq (tgt := 659) hx hb dL_law_557 (by decide) (fun c3 => ?_) (fun c3 => ?_)
      · rw [((J_take HJ x1 g lt c1.1).2 c1.2).2] at hP hD
        exact next (tkA u.1 (ag x1) 13, u.2) (va_up dv kd (tkD u.1 (ag x1) 13 (dv kd))) ib hs ht c0 (kd + 1) Ac ts g lt (tkP u.1 (ag x1) kd 13 pa) ac2 _ _ _ (((J_take HJ x1 g lt c1.1).2 c1.2).1) hP hD hS (lv_sub hl [0, 1, 2, 3] rfl)
      · exact absurd rfl c3
    · exact absurd c1 c2
  · have hP := hP.sub (ws' := (wM ad cA u.1 dv ib u.2.1 hs ht (nI c0) (nI u.2.2.1) u.2.2.2.1 u.2.2.2.2.1 (nI kd) u.2.2.2.2.2.1 u.2.2.2.2.2.2 Ac ts g lt) ++ (wN an cB u.1 u.2.2.2.2.2.2 Ac g lt ts u.2.2.2.2.2.1 (nI c0) hs ht (nI kd) pa ib ac2)) [7, 8, 9, 10, 11, 12, 13, 14, 15, 16, 17, 18, 19, 20, 21, 22, 23, 24, 0, 1, 2, 3, 4, 5, 6] rfl
    have hD := hD.sub (ws' := (wM ad cA u.1 dv ib u.2.1 hs ht (nI c0) (nI u.2.2.1) u.2.2.2.1 u.2.2.2.2.1 (nI kd) u.2.2.2.2.2.1 u.2.2.2.2.2.2 Ac ts g lt) ++ (wN an cB u.1 u.2.2.2.2.2.2 Ac g lt ts u.2.2.2.2.2.1 (nI c0) hs ht (nI kd) pa ib ac2)) [7, 8, 9, 10, 11, 12, 13, 14, 15, 16, 17, 18, 19, 20, 21, 22, 23, 24, 0, 1, 2, 3, 4, 5, 6] (by decide) rfl
    refine lv_aload_n hx hb dL_law_543 rfl (lv_at hl 1 rfl) ?_
    refine lv_aload_n hx hb dL_law_544 rfl (lv_at hl 3 rfl) ?_
    refine lv_iload_n hx hb dL_law_545 rfl (lv_at hl 0 rfl) ?_
    refine lv_iconst (v := 1) hx hb dL_law_546 (by decide) ?_
    refine lv_iadd hx hb dL_law_547 ?_
    refine ct_topi (y := nI (4 * k + 1)) (nI_add (4 * k) 1) ?_
    refine va_sld hx hb hX hbl hbA hS (vp_in_nI (by omega) (by omega)) dL_law_548 ?_
    refine ct_topi (y := x1) (by rw [nI_clamp (by omega)]; exact ex1.symm) ?_
    refine lv_i2d hx hb dL_law_549 ?_
    refine lv_ldc2d hx hb hown (hts _ tw_d_L_13) dL_law_550 ?_
    refine lv_dmul hx hb dL_law_553 (ag_vf x1) ?_
    refine ct_topd (y := ag x1) (rfl) ?_
    refine ct_cvc (As := [.double (ag x1)]) (rest := [.int (tkR (ag x1) g lt)]) (wr := (wM ad cA u.1 dv ib u.2.1 hs ht (nI c0) (nI u.2.2.1) u.2.2.2.1 u.2.2.2.2.1 (nI kd) u.2.2.2.2.2.1 u.2.2.2.2.2.2 Ac ts g lt)) (w1 := (wN an cB (tkA u.1 (ag x1) 13) u.2.2.2.2.2.2 Ac g lt ts u.2.2.2.2.2.1 (nI c0) hs ht (nI (kd + 1)) (tkP u.1 (ag x1) kd 13 pa) (upd ib kd 0) ac2)) (w0 := (wN an cB u.1 u.2.2.2.2.2.2 Ac g lt ts u.2.2.2.2.2.1 (nI c0) hs ht (nI kd) pa ib ac2)) ⟨hx, hb, hml, hown, hts⟩ (cN_take l dC dI tt _ an cB u.1 u.2.2.2.2.2.2 Ac g lt ts u.2.2.2.2.2.1 (nI c0) hs ht kd pa ib ac2 (ag x1) (ag_no x1) hkd (fun h => (J_take HJ x1 g lt h).1)) (gT_V tw_m_L_61 tw_i_yN_take tw_s_yN_take tw_I_N tw_c_yN_take) ⟨rfl, by decide +kernel, by decide +kernel, (by decide +kernel : (parseMethodDescriptor yN_take.desc).map (fun d => d.parameters.length) = some 1)⟩ ⟨Nat.le_of_ble_eq_true rfl, Nat.le_of_ble_eq_true rfl⟩ (ci := 3) rfl rfl rfl hP hD hK hS hA hT [18, 19, 20, 21, 22, 23, 24] [0, 1, 2, 3, 4, 5, 6, 7, 8, 9, 10, 11, 12, 13, 14, 15, 16, 17] [8, 9, 10, 11, 12, 13] (by decide) rfl rfl (by decide) (by decide) rfl hl.1 rfl (Nat.le_of_ble_eq_true rfl) dL_law_554 ⟨Nat.le_of_ble_eq_true rfl, Nat.le_of_ble_eq_true rfl⟩ (fun c2 H locs hP hD hS => ?_) (fun c2 H locs hP hD hS => ?_)
    · exact absurd c2 c1
    · have hP : va_P (dC, dI) cls ((wM ad cA u.1 dv ib u.2.1 hs ht (nI c0) (nI u.2.2.1) u.2.2.2.1 u.2.2.2.2.1 (nI kd) u.2.2.2.2.2.1 u.2.2.2.2.2.2 Ac ts g lt) ++ (wN an cB u.1 u.2.2.2.2.2.2 Ac g lt ts u.2.2.2.2.2.1 (nI c0) hs ht (nI kd) pa ib ac2)) H := hP
      have hD : va_D _ ((wM ad cA u.1 dv ib u.2.1 hs ht (nI c0) (nI u.2.2.1) u.2.2.2.1 u.2.2.2.2.1 (nI kd) u.2.2.2.2.2.1 u.2.2.2.2.2.2 Ac ts g lt) ++ (wN an cB u.1 u.2.2.2.2.2.2 Ac g lt ts u.2.2.2.2.2.1 (nI c0) hs ht (nI kd) pa ib ac2)) := hD
      refine lv_icmp_eq (tgt := 659) hx hb dL_law_557 (by decide) (fun c3 => ?_) (fun c3 => ?_)
      · exact next u dv ib hs ht c0 kd Ac ts g lt pa ac2 _ _ _ (JI.next HJ) hP hD hS (lv_sub hl [0, 1, 2, 3] rfl)
      · exact absurd rfl c3

set_option maxHeartbeats 4000000 in
set_option maxRecDepth 100000 in
theorem lc_back (C1 : LC p s m meth c dC dI tt b L xs cA cB) {k : Nat} (h4 : 4 * k + 4 ≤ L) (next : LW p l e s m below meth c dC dI b ad cA an cB 659 (4 * k) (k + 1)) : LW p l e s m below meth c dC dI b ad cA an cB 562 (4 * k) k := by
  obtain ⟨hx, hb, hr, hml, hown, hts, hX, hbl, hlocks, hK, hT, hL⟩ := C1
  have hA : ∀ q : Nat, s.heap.size ≤ q → (fun q : Nat => s.heap.size ≤ q) q := fun _ h => h
  have hbA : ¬ (fun q : Nat => s.heap.size ≤ q) b := Nat.not_le.mpr hbl
  intro u dv ib hs ht c0 kd Ac ts g lt pa ac2 H locs ls HJ hP hD hS hl
  have hk : k ≤ 511 := by omega
  obtain ⟨hkd, hc32, hAc, hTT, hWW⟩ := J_c HJ
  obtain ⟨x1, ex1⟩ : ∃ y : Int32, y = xs (4 * k + 1) := ⟨_, rfl⟩
  obtain ⟨x2, ex2⟩ : ∃ y : Int32, y = xs (4 * k + 2) := ⟨_, rfl⟩
  refine lv_aload_n hx hb dL_law_562 rfl (lv_at hl 2 rfl) ?_
  refine lv_aload_n hx hb dL_law_563 rfl (lv_at hl 3 rfl) ?_
  refine lv_iload_n hx hb dL_law_564 rfl (lv_at hl 0 rfl) ?_
  refine lv_iconst (v := 1) hx hb dL_law_565 (by decide) ?_
  refine lv_iadd hx hb dL_law_566 ?_
  refine ct_topi (y := nI (4 * k + 1)) (nI_add (4 * k) 1) ?_
  refine va_sld hx hb hX hbl hbA hS (vp_in_nI (by omega) (by omega)) dL_law_567 ?_
  refine ct_topi (y := x1) (by rw [nI_clamp (by omega)]; exact ex1.symm) ?_
  refine lv_aload_n hx hb dL_law_568 rfl (lv_at hl 3 rfl) ?_
  refine lv_iload_n hx hb dL_law_569 rfl (lv_at hl 0 rfl) ?_
  refine lv_iconst (v := 2) hx hb dL_law_570 (by decide) ?_
  refine lv_iadd hx hb dL_law_571 ?_
  refine ct_topi (y := nI (4 * k + 2)) (nI_add (4 * k) 2) ?_
  refine va_sld hx hb hX hbl hbA hS (vp_in_nI (by omega) (by omega)) dL_law_572 ?_
  refine ct_topi (y := x2) (by rw [nI_clamp (by omega)]; exact ex2.symm) ?_
  refine lv_i2d hx hb dL_law_573 ?_
  refine lv_ldc2d hx hb hown (hts _ tw_d_L_13) dL_law_574 ?_
  refine lv_dmul hx hb dL_law_577 (ag_vf x2) ?_
  refine ct_topd (y := ag x2) (rfl) ?_
  refine ct_cvc (As := [.int x1, .double (ag x2)]) (rest := []) (wr := (wN an cB u.1 u.2.2.2.2.2.2 Ac g lt ts u.2.2.2.2.2.1 (nI c0) hs ht (nI kd) pa ib ac2)) (w1 := (wM ad cA (bkA u.1 (dv x1.toNatClampNeg) 13) dv (upd ib x1.toNatClampNeg 1) u.2.1 hs ht (nI c0) (nI u.2.2.1) u.2.2.2.1 u.2.2.2.2.1 (nI kd) u.2.2.2.2.2.1 (mixD u.2.2.2.2.2.2 (u.1 0) (ag x2) (dv x1.toNatClampNeg 0)) Ac ts g lt)) (w0 := (wM ad cA u.1 dv ib u.2.1 hs ht (nI c0) (nI u.2.2.1) u.2.2.2.1 u.2.2.2.2.1 (nI kd) u.2.2.2.2.2.1 u.2.2.2.2.2.2 Ac ts g lt)) ⟨hx, hb, hml, hown, hts⟩ (cM_back l dC dI tt _ ad cA u.1 dv ib u.2.1 hs ht (nI c0) (nI u.2.2.1) u.2.2.2.1 u.2.2.2.2.1 kd u.2.2.2.2.2.1 u.2.2.2.2.2.2 Ac ts g lt x1 (ag x2) hkd (fun h => (J_back HJ hk x1 x2 h).1)) (gT_V tw_m_L_62 tw_i_yM_back tw_s_yM_back tw_I_M tw_c_yM_back) ⟨rfl, by decide +kernel, by decide +kernel, (by decide +kernel : (parseMethodDescriptor yM_back.desc).map (fun d => d.parameters.length) = some 2)⟩ ⟨Nat.le_of_ble_eq_true rfl, Nat.le_of_ble_eq_true rfl⟩ (ci := 0) rfl rfl rfl hP hD hK hS hA hT [0, 1, 2, 3, 4, 5, 6, 7, 8, 9, 10, 11, 12, 13, 14, 15, 16, 17] [18, 19, 20, 21, 22, 23, 24] [0, 1, 2, 3, 4, 5, 6, 7] (by decide) rfl rfl (by decide) (by decide) rfl hl.1 rfl (Nat.le_of_ble_eq_true rfl) dL_law_578 ⟨Nat.le_of_ble_eq_true rfl, Nat.le_of_ble_eq_true rfl⟩ (fun c1 H locs hP hD hS => ?_) (fun c1 H locs hP hD hS => ?_)
  · have hP := hP.sub (ws' := (wM ad cA (bkA u.1 (dv x1.toNatClampNeg) 13) dv (upd ib x1.toNatClampNeg 1) u.2.1 hs ht (nI c0) (nI u.2.2.1) u.2.2.2.1 u.2.2.2.2.1 (nI kd) u.2.2.2.2.2.1 (mixD u.2.2.2.2.2.2 (u.1 0) (ag x2) (dv x1.toNatClampNeg 0)) Ac ts g lt) ++ (wN an cB u.1 u.2.2.2.2.2.2 Ac g lt ts u.2.2.2.2.2.1 (nI c0) hs ht (nI kd) pa ib ac2)) [7, 8, 9, 10, 11, 12, 13, 14, 15, 16, 17, 18, 19, 20, 21, 22, 23, 24, 0, 1, 2, 3, 4, 5, 6] rfl
    have hD := hD.sub (ws' := (wM ad cA (bkA u.1 (dv x1.toNatClampNeg) 13) dv (upd ib x1.toNatClampNeg 1) u.2.1 hs ht (nI c0) (nI u.2.2.1) u.2.2.2.1 u.2.2.2.2.1 (nI kd) u.2.2.2.2.2.1 (mixD u.2.2.2.2.2.2 (u.1 0) (ag x2) (dv x1.toNatClampNeg 0)) Ac ts g lt) ++ (wN an cB u.1 u.2.2.2.2.2.2 Ac g lt ts u.2.2.2.2.2.1 (nI c0) hs ht (nI kd) pa ib ac2)) [7, 8, 9, 10, 11, 12, 13, 14, 15, 16, 17, 18, 19, 20, 21, 22, 23, 24, 0, 1, 2, 3, 4, 5, 6] (by decide) rfl
    refine lv_aload_n hx hb dL_law_581 rfl (lv_at hl 1 rfl) ?_
    refine lv_aload_n hx hb dL_law_582 rfl (lv_at hl 3 rfl) ?_
    refine lv_iload_n hx hb dL_law_583 rfl (lv_at hl 0 rfl) ?_
    refine lv_iconst (v := 1) hx hb dL_law_584 (by decide) ?_
    refine lv_iadd hx hb dL_law_585 ?_
    refine ct_topi (y := nI (4 * k + 1)) (nI_add (4 * k) 1) ?_
    refine va_sld hx hb hX hbl hbA hS (vp_in_nI (by omega) (by omega)) dL_law_586 ?_
    refine ct_topi (y := x1) (by rw [nI_clamp (by omega)]; exact ex1.symm) ?_
    refine lv_aload_n hx hb dL_law_587 rfl (lv_at hl 3 rfl) ?_
    refine lv_iload_n hx hb dL_law_588 rfl (lv_at hl 0 rfl) ?_
    refine lv_iconst (v := 2) hx hb dL_law_589 (by decide) ?_
    refine lv_iadd hx hb dL_law_590 ?_
    refine ct_topi (y := nI (4 * k + 2)) (nI_add (4 * k) 2) ?_
    refine va_sld hx hb hX hbl hbA hS (vp_in_nI (by omega) (by omega)) dL_law_591 ?_
    refine ct_topi (y := x2) (by rw [nI_clamp (by omega)]; exact ex2.symm) ?_
    refine lv_i2d hx hb dL_law_592 ?_
    refine lv_ldc2d hx hb hown (hts _ tw_d_L_13) dL_law_593 ?_
    refine lv_dmul hx hb dL_law_596 (ag_vf x2) ?_
    refine ct_topd (y := ag x2) (rfl) ?_
    refine ct_cvc (As := [.int x1, .double (ag x2)]) (rest := [.int 1]) (wr := (wM ad cA (bkA u.1 (dv x1.toNatClampNeg) 13) dv (upd ib x1.toNatClampNeg 1) u.2.1 hs ht (nI c0) (nI u.2.2.1) u.2.2.2.1 u.2.2.2.2.1 (nI kd) u.2.2.2.2.2.1 (mixD u.2.2.2.2.2.2 (u.1 0) (ag x2) (dv x1.toNatClampNeg 0)) Ac ts g lt)) (w1 := (wN an cB (bkA u.1 (fun m => pa (13 * x1.toNatClampNeg + m)) 13) (mixD u.2.2.2.2.2.2 (u.1 0) (ag x2) (pa (13 * x1.toNatClampNeg))) Ac g lt ts u.2.2.2.2.2.1 (nI c0) hs ht (nI kd) pa (upd ib x1.toNatClampNeg 1) ac2)) (w0 := (wN an cB u.1 u.2.2.2.2.2.2 Ac g lt ts u.2.2.2.2.2.1 (nI c0) hs ht (nI kd) pa ib ac2)) ⟨hx, hb, hml, hown, hts⟩ (cN_back l dC dI tt _ an cB u.1 u.2.2.2.2.2.2 Ac g lt ts u.2.2.2.2.2.1 (nI c0) hs ht kd pa ib ac2 x1 (ag x2) (ag_no x2) hkd (fun h => ⟨by rw [(J_back HJ hk x1 x2 h).2.1.1]; exact (J_back HJ hk x1 x2 h).1.1, fun i hi => by rw [(J_back HJ hk x1 x2 h).2.1.2 i hi]; exact (J_back HJ hk x1 x2 h).1.2 i hi⟩)) (gT_V tw_m_L_65 tw_i_yN_back tw_s_yN_back tw_I_N tw_c_yN_back) ⟨rfl, by decide +kernel, by decide +kernel, (by decide +kernel : (parseMethodDescriptor yN_back.desc).map (fun d => d.parameters.length) = some 2)⟩ ⟨Nat.le_of_ble_eq_true rfl, Nat.le_of_ble_eq_true rfl⟩ (ci := 3) rfl rfl rfl hP hD hK hS hA hT [18, 19, 20, 21, 22, 23, 24] [0, 1, 2, 3, 4, 5, 6, 7, 8, 9, 10, 11, 12, 13, 14, 15, 16, 17] [8, 9, 10, 11, 12, 13] (by decide) rfl rfl (by decide) (by decide) rfl hl.1 rfl (Nat.le_of_ble_eq_true rfl) dL_law_597 ⟨Nat.le_of_ble_eq_true rfl, Nat.le_of_ble_eq_true rfl⟩ (fun c2 H locs hP hD hS => ?_) (fun c2 H locs hP hD hS => ?_)
    · have hP : va_P (dC, dI) cls ((wM ad cA (bkA u.1 (dv x1.toNatClampNeg) 13) dv (upd ib x1.toNatClampNeg 1) u.2.1 hs ht (nI c0) (nI u.2.2.1) u.2.2.2.1 u.2.2.2.2.1 (nI kd) u.2.2.2.2.2.1 (mixD u.2.2.2.2.2.2 (u.1 0) (ag x2) (dv x1.toNatClampNeg 0)) Ac ts g lt) ++ (wN an cB (bkA u.1 (fun m => pa (13 * x1.toNatClampNeg + m)) 13) (mixD u.2.2.2.2.2.2 (u.1 0) (ag x2) (pa (13 * x1.toNatClampNeg))) Ac g lt ts u.2.2.2.2.2.1 (nI c0) hs ht (nI kd) pa (upd ib x1.toNatClampNeg 1) ac2)) H := hP
      have hD : va_D _ ((wM ad cA (bkA u.1 (dv x1.toNatClampNeg) 13) dv (upd ib x1.toNatClampNeg 1) u.2.1 hs ht (nI c0) (nI u.2.2.1) u.2.2.2.1 u.2.2.2.2.1 (nI kd) u.2.2.2.2.2.1 (mixD u.2.2.2.2.2.2 (u.1 0) (ag x2) (dv x1.toNatClampNeg 0)) Ac ts g lt) ++ (wN an cB (bkA u.1 (fun m => pa (13 * x1.toNatClampNeg + m)) 13) (mixD u.2.2.2.2.2.2 (u.1 0) (ag x2) (pa (13 * x1.toNatClampNeg))) Ac g lt ts u.2.2.2.2.2.1 (nI c0) hs ht (nI kd) pa (upd ib x1.toNatClampNeg 1) ac2)) := hD
      refine lv_icmp_eq (tgt := 659) hx hb dL_law_600 (by decide) (fun c3 => ?_) (fun c3 => ?_)
      · rw [(J_back HJ hk x1 x2 c1).2.2.1, (J_back HJ hk x1 x2 c1).2.1.1] at hP hD
        exact next (bkA u.1 (dv x1.toNatClampNeg) 13, u.2.1, u.2.2.1, u.2.2.2.1, u.2.2.2.2.1, u.2.2.2.2.2.1, mixD u.2.2.2.2.2.2 (u.1 0) (ag x2) (dv x1.toNatClampNeg 0)) dv (upd ib x1.toNatClampNeg 1) hs ht c0 kd Ac ts g lt pa ac2 _ _ _ ((J_back HJ hk x1 x2 c1).2.2.2) hP hD hS (lv_sub hl [0, 1, 2, 3] rfl)
      · exact absurd rfl c3
    · exact absurd c1 c2
  · have hP := hP.sub (ws' := (wM ad cA u.1 dv ib u.2.1 hs ht (nI c0) (nI u.2.2.1) u.2.2.2.1 u.2.2.2.2.1 (nI kd) u.2.2.2.2.2.1 u.2.2.2.2.2.2 Ac ts g lt) ++ (wN an cB u.1 u.2.2.2.2.2.2 Ac g lt ts u.2.2.2.2.2.1 (nI c0) hs ht (nI kd) pa ib ac2)) [7, 8, 9, 10, 11, 12, 13, 14, 15, 16, 17, 18, 19, 20, 21, 22, 23, 24, 0, 1, 2, 3, 4, 5, 6] rfl
    have hD := hD.sub (ws' := (wM ad cA u.1 dv ib u.2.1 hs ht (nI c0) (nI u.2.2.1) u.2.2.2.1 u.2.2.2.2.1 (nI kd) u.2.2.2.2.2.1 u.2.2.2.2.2.2 Ac ts g lt) ++ (wN an cB u.1 u.2.2.2.2.2.2 Ac g lt ts u.2.2.2.2.2.1 (nI c0) hs ht (nI kd) pa ib ac2)) [7, 8, 9, 10, 11, 12, 13, 14, 15, 16, 17, 18, 19, 20, 21, 22, 23, 24, 0, 1, 2, 3, 4, 5, 6] (by decide) rfl
    refine lv_aload_n hx hb dL_law_581 rfl (lv_at hl 1 rfl) ?_
    refine lv_aload_n hx hb dL_law_582 rfl (lv_at hl 3 rfl) ?_
    refine lv_iload_n hx hb dL_law_583 rfl (lv_at hl 0 rfl) ?_
    refine lv_iconst (v := 1) hx hb dL_law_584 (by decide) ?_
    refine lv_iadd hx hb dL_law_585 ?_
    refine ct_topi (y := nI (4 * k + 1)) (nI_add (4 * k) 1) ?_
    refine va_sld hx hb hX hbl hbA hS (vp_in_nI (by omega) (by omega)) dL_law_586 ?_
    refine ct_topi (y := x1) (by rw [nI_clamp (by omega)]; exact ex1.symm) ?_
    refine lv_aload_n hx hb dL_law_587 rfl (lv_at hl 3 rfl) ?_
    refine lv_iload_n hx hb dL_law_588 rfl (lv_at hl 0 rfl) ?_
    refine lv_iconst (v := 2) hx hb dL_law_589 (by decide) ?_
    refine lv_iadd hx hb dL_law_590 ?_
    refine ct_topi (y := nI (4 * k + 2)) (nI_add (4 * k) 2) ?_
    refine va_sld hx hb hX hbl hbA hS (vp_in_nI (by omega) (by omega)) dL_law_591 ?_
    refine ct_topi (y := x2) (by rw [nI_clamp (by omega)]; exact ex2.symm) ?_
    refine lv_i2d hx hb dL_law_592 ?_
    refine lv_ldc2d hx hb hown (hts _ tw_d_L_13) dL_law_593 ?_
    refine lv_dmul hx hb dL_law_596 (ag_vf x2) ?_
    refine ct_topd (y := ag x2) (rfl) ?_
    refine ct_cvc (As := [.int x1, .double (ag x2)]) (rest := [.int 0]) (wr := (wM ad cA u.1 dv ib u.2.1 hs ht (nI c0) (nI u.2.2.1) u.2.2.2.1 u.2.2.2.2.1 (nI kd) u.2.2.2.2.2.1 u.2.2.2.2.2.2 Ac ts g lt)) (w1 := (wN an cB (bkA u.1 (fun m => pa (13 * x1.toNatClampNeg + m)) 13) (mixD u.2.2.2.2.2.2 (u.1 0) (ag x2) (pa (13 * x1.toNatClampNeg))) Ac g lt ts u.2.2.2.2.2.1 (nI c0) hs ht (nI kd) pa (upd ib x1.toNatClampNeg 1) ac2)) (w0 := (wN an cB u.1 u.2.2.2.2.2.2 Ac g lt ts u.2.2.2.2.2.1 (nI c0) hs ht (nI kd) pa ib ac2)) ⟨hx, hb, hml, hown, hts⟩ (cN_back l dC dI tt _ an cB u.1 u.2.2.2.2.2.2 Ac g lt ts u.2.2.2.2.2.1 (nI c0) hs ht kd pa ib ac2 x1 (ag x2) (ag_no x2) hkd (fun h => ⟨by rw [(J_back HJ hk x1 x2 h).2.1.1]; exact (J_back HJ hk x1 x2 h).1.1, fun i hi => by rw [(J_back HJ hk x1 x2 h).2.1.2 i hi]; exact (J_back HJ hk x1 x2 h).1.2 i hi⟩)) (gT_V tw_m_L_65 tw_i_yN_back tw_s_yN_back tw_I_N tw_c_yN_back) ⟨rfl, by decide +kernel, by decide +kernel, (by decide +kernel : (parseMethodDescriptor yN_back.desc).map (fun d => d.parameters.length) = some 2)⟩ ⟨Nat.le_of_ble_eq_true rfl, Nat.le_of_ble_eq_true rfl⟩ (ci := 3) rfl rfl rfl hP hD hK hS hA hT [18, 19, 20, 21, 22, 23, 24] [0, 1, 2, 3, 4, 5, 6, 7, 8, 9, 10, 11, 12, 13, 14, 15, 16, 17] [8, 9, 10, 11, 12, 13] (by decide) rfl rfl (by decide) (by decide) rfl hl.1 rfl (Nat.le_of_ble_eq_true rfl) dL_law_597 ⟨Nat.le_of_ble_eq_true rfl, Nat.le_of_ble_eq_true rfl⟩ (fun c2 H locs hP hD hS => ?_) (fun c2 H locs hP hD hS => ?_)
    · exact absurd c2 c1
    · have hP : va_P (dC, dI) cls ((wM ad cA u.1 dv ib u.2.1 hs ht (nI c0) (nI u.2.2.1) u.2.2.2.1 u.2.2.2.2.1 (nI kd) u.2.2.2.2.2.1 u.2.2.2.2.2.2 Ac ts g lt) ++ (wN an cB u.1 u.2.2.2.2.2.2 Ac g lt ts u.2.2.2.2.2.1 (nI c0) hs ht (nI kd) pa ib ac2)) H := hP
      have hD : va_D _ ((wM ad cA u.1 dv ib u.2.1 hs ht (nI c0) (nI u.2.2.1) u.2.2.2.1 u.2.2.2.2.1 (nI kd) u.2.2.2.2.2.1 u.2.2.2.2.2.2 Ac ts g lt) ++ (wN an cB u.1 u.2.2.2.2.2.2 Ac g lt ts u.2.2.2.2.2.1 (nI c0) hs ht (nI kd) pa ib ac2)) := hD
      refine lv_icmp_eq (tgt := 659) hx hb dL_law_600 (by decide) (fun c3 => ?_) (fun c3 => ?_)
      · exact next u dv ib hs ht c0 kd Ac ts g lt pa ac2 _ _ _ (JI.next HJ) hP hD hS (lv_sub hl [0, 1, 2, 3] rfl)
      · exact absurd rfl c3

set_option maxHeartbeats 4000000 in
set_option maxRecDepth 100000 in
theorem lc_water (C1 : LC p s m meth c dC dI tt b L xs cA cB) {k : Nat} (h4 : 4 * k + 4 ≤ L) (next : LW p l e s m below meth c dC dI b ad cA an cB 659 (4 * k) (k + 1)) : LW p l e s m below meth c dC dI b ad cA an cB 605 (4 * k) k := by
  obtain ⟨hx, hb, hr, hml, hown, hts, hX, hbl, hlocks, hK, hT, hL⟩ := C1
  have hA : ∀ q : Nat, s.heap.size ≤ q → (fun q : Nat => s.heap.size ≤ q) q := fun _ h => h
  have hbA : ¬ (fun q : Nat => s.heap.size ≤ q) b := Nat.not_le.mpr hbl
  intro u dv ib hs ht c0 kd Ac ts g lt pa ac2 H locs ls HJ hP hD hS hl
  have hk : k ≤ 511 := by omega
  obtain ⟨hkd, hc32, hAc, hTT, hWW⟩ := J_c HJ
  refine lv_aload_n hx hb dL_law_605 rfl (lv_at hl 2 rfl) ?_
  refine ct_cvd (As := []) (rest := []) (wr := (wN an cB u.1 u.2.2.2.2.2.2 Ac g lt ts u.2.2.2.2.2.1 (nI c0) hs ht (nI kd) pa ib ac2)) (w1 := (wM ad cA u.1 dv ib u.2.1 hs ht (nI c0) (nI u.2.2.1) u.2.2.2.1 u.2.2.2.2.1 (nI kd) u.2.2.2.2.2.1 u.2.2.2.2.2.2 Ac ts g lt)) ⟨hx, hb, hml, hown, hts⟩ (cM_water l dC dI tt _ ad cA u.1 dv ib u.2.1 hs ht (nI c0) (nI u.2.2.1) u.2.2.2.1 u.2.2.2.2.1 (nI kd) u.2.2.2.2.2.1 u.2.2.2.2.2.2 Ac ts g lt ) (gT_V tw_m_L_66 tw_i_yM_water tw_s_yM_water tw_I_M tw_c_yM_water) ⟨rfl, by decide +kernel, by decide +kernel, (by decide +kernel : (parseMethodDescriptor yM_water.desc).map (fun d => d.parameters.length) = some 0)⟩ ⟨Nat.le_of_ble_eq_true rfl, Nat.le_of_ble_eq_true rfl⟩ (ci := 0) rfl rfl rfl hP hD hK hS hA hT [0, 1, 2, 3, 4, 5, 6, 7, 8, 9, 10, 11, 12, 13, 14, 15, 16, 17] [18, 19, 20, 21, 22, 23, 24] [0, 1, 2, 3, 4, 5, 6, 7] (by decide) rfl rfl (by decide) (by decide) rfl hl.1 rfl (Nat.le_of_ble_eq_true rfl) dL_law_606 ⟨Nat.le_of_ble_eq_true rfl, Nat.le_of_ble_eq_true rfl⟩ (fun H locs hP hD hS => ?_)
  have hP := hP.sub (ws' := (wM ad cA u.1 dv ib u.2.1 hs ht (nI c0) (nI u.2.2.1) u.2.2.2.1 u.2.2.2.2.1 (nI kd) u.2.2.2.2.2.1 u.2.2.2.2.2.2 Ac ts g lt) ++ (wN an cB u.1 u.2.2.2.2.2.2 Ac g lt ts u.2.2.2.2.2.1 (nI c0) hs ht (nI kd) pa ib ac2)) [7, 8, 9, 10, 11, 12, 13, 14, 15, 16, 17, 18, 19, 20, 21, 22, 23, 24, 0, 1, 2, 3, 4, 5, 6] rfl
  have hD := hD.sub (ws' := (wM ad cA u.1 dv ib u.2.1 hs ht (nI c0) (nI u.2.2.1) u.2.2.2.1 u.2.2.2.2.1 (nI kd) u.2.2.2.2.2.1 u.2.2.2.2.2.2 Ac ts g lt) ++ (wN an cB u.1 u.2.2.2.2.2.2 Ac g lt ts u.2.2.2.2.2.1 (nI c0) hs ht (nI kd) pa ib ac2)) [7, 8, 9, 10, 11, 12, 13, 14, 15, 16, 17, 18, 19, 20, 21, 22, 23, 24, 0, 1, 2, 3, 4, 5, 6] (by decide) rfl
  refine lv_dstore (lv' := [(4, .double (u.1 0)), (3, .int (nI (4 * k))), (2, .ref (an 0)), (1, .ref (ad 0)), (0, .ref b)]) hx hb dL_law_609 hl (by decide) rfl (fun ls hl => ?_)
  refine lv_aload_n hx hb dL_law_611 rfl (lv_at hl 2 rfl) ?_
  refine ct_cvd (As := []) (rest := []) (wr := (wM ad cA u.1 dv ib u.2.1 hs ht (nI c0) (nI u.2.2.1) u.2.2.2.1 u.2.2.2.2.1 (nI kd) u.2.2.2.2.2.1 u.2.2.2.2.2.2 Ac ts g lt)) (w1 := (wN an cB u.1 u.2.2.2.2.2.2 Ac g lt ts u.2.2.2.2.2.1 (nI c0) hs ht (nI kd) pa ib ac2)) ⟨hx, hb, hml, hown, hts⟩ (cN_water l dC dI tt _ an cB u.1 u.2.2.2.2.2.2 Ac g lt ts u.2.2.2.2.2.1 (nI c0) hs ht (nI kd) pa ib ac2 ) (gT_V tw_m_L_69 tw_i_yN_water tw_s_yN_water tw_I_N tw_c_yN_water) ⟨rfl, by decide +kernel, by decide +kernel, (by decide +kernel : (parseMethodDescriptor yN_water.desc).map (fun d => d.parameters.length) = some 0)⟩ ⟨Nat.le_of_ble_eq_true rfl, Nat.le_of_ble_eq_true rfl⟩ (ci := 3) rfl rfl rfl hP hD hK hS hA hT [18, 19, 20, 21, 22, 23, 24] [0, 1, 2, 3, 4, 5, 6, 7, 8, 9, 10, 11, 12, 13, 14, 15, 16, 17] [8, 9, 10, 11, 12, 13] (by decide) rfl rfl (by decide) (by decide) rfl hl.1 rfl (Nat.le_of_ble_eq_true rfl) dL_law_612 ⟨Nat.le_of_ble_eq_true rfl, Nat.le_of_ble_eq_true rfl⟩ (fun H locs hP hD hS => ?_)
  have hP : va_P (dC, dI) cls ((wM ad cA u.1 dv ib u.2.1 hs ht (nI c0) (nI u.2.2.1) u.2.2.2.1 u.2.2.2.2.1 (nI kd) u.2.2.2.2.2.1 u.2.2.2.2.2.2 Ac ts g lt) ++ (wN an cB u.1 u.2.2.2.2.2.2 Ac g lt ts u.2.2.2.2.2.1 (nI c0) hs ht (nI kd) pa ib ac2)) H := hP
  have hD : va_D _ ((wM ad cA u.1 dv ib u.2.1 hs ht (nI c0) (nI u.2.2.1) u.2.2.2.1 u.2.2.2.2.1 (nI kd) u.2.2.2.2.2.1 u.2.2.2.2.2.2 Ac ts g lt) ++ (wN an cB u.1 u.2.2.2.2.2.2 Ac g lt ts u.2.2.2.2.2.1 (nI c0) hs ht (nI kd) pa ib ac2)) := hD
  refine lv_dstore (lv' := [(6, .double (u.1 0)), (4, .double (u.1 0)), (3, .int (nI (4 * k))), (2, .ref (an 0)), (1, .ref (ad 0)), (0, .ref b)]) hx hb dL_law_615 hl (by decide) rfl (fun ls hl => ?_)
  refine lv_dload hx hb dL_law_617 (lv_at hl 1 rfl) ?_
  refine lv_dload hx hb dL_law_619 (lv_at hl 0 rfl) ?_
  refine lv_dcmp hx hb dL_law_621 ?_
  refine lv_if_eq (tgt := 643) hx hb dL_law_622 (by decide) (fun c3 => ?_) (fun c3 => ?_)
  · refine lv_goto (tgt := 659) hx hb dL_law_643 (by decide) ?_
    exact next u dv ib hs ht c0 kd Ac ts g lt pa ac2 _ _ _ (JI.next HJ) hP hD hS (lv_sub hl [2, 3, 4, 5] rfl)
  · exact absurd ((cv_l_eq _).mpr (hWW)) c3

set_option maxHeartbeats 4000000 in
set_option maxRecDepth 100000 in
theorem lc_converted (C1 : LC p s m meth c dC dI tt b L xs cA cB) {k : Nat} (h4 : 4 * k + 4 ≤ L) (next : LW p l e s m below meth c dC dI b ad cA an cB 659 (4 * k) (k + 1)) : LW p l e s m below meth c dC dI b ad cA an cB 646 (4 * k) k := by
  obtain ⟨hx, hb, hr, hml, hown, hts, hX, hbl, hlocks, hK, hT, hL⟩ := C1
  have hA : ∀ q : Nat, s.heap.size ≤ q → (fun q : Nat => s.heap.size ≤ q) q := fun _ h => h
  have hbA : ¬ (fun q : Nat => s.heap.size ≤ q) b := Nat.not_le.mpr hbl
  intro u dv ib hs ht c0 kd Ac ts g lt pa ac2 H locs ls HJ hP hD hS hl
  have hk : k ≤ 511 := by omega
  obtain ⟨hkd, hc32, hAc, hTT, hWW⟩ := J_c HJ
  refine lv_aload_n hx hb dL_law_646 rfl (lv_at hl 2 rfl) ?_
  refine ct_cvc (As := []) (rest := []) (wr := (wN an cB u.1 u.2.2.2.2.2.2 Ac g lt ts u.2.2.2.2.2.1 (nI c0) hs ht (nI kd) pa ib ac2)) (w1 := (wM ad cA u.1 dv ib u.2.1 hs ht (nI c0) (nI u.2.2.1) u.2.2.2.1 u.2.2.2.2.1 (nI kd) u.2.2.2.2.2.1 u.2.2.2.2.2.2 Ac ts g lt)) (w0 := (wM ad cA u.1 dv ib u.2.1 hs ht (nI c0) (nI u.2.2.1) u.2.2.2.1 u.2.2.2.2.1 (nI kd) u.2.2.2.2.2.1 u.2.2.2.2.2.2 Ac ts g lt)) ⟨hx, hb, hml, hown, hts⟩ (cM_converted l dC dI tt _ ad cA u.1 dv ib u.2.1 hs ht (nI c0) (nI u.2.2.1) u.2.2.2.1 u.2.2.2.2.1 (nI kd) u.2.2.2.2.2.1 u.2.2.2.2.2.2 Ac ts g lt (J_starch HJ hk)) (gT_V tw_m_L_70 tw_i_yM_converted tw_s_yM_converted tw_I_M tw_c_yM_converted) ⟨rfl, by decide +kernel, by decide +kernel, (by decide +kernel : (parseMethodDescriptor yM_converted.desc).map (fun d => d.parameters.length) = some 0)⟩ ⟨Nat.le_of_ble_eq_true rfl, Nat.le_of_ble_eq_true rfl⟩ (ci := 0) rfl rfl rfl hP hD hK hS hA hT [0, 1, 2, 3, 4, 5, 6, 7, 8, 9, 10, 11, 12, 13, 14, 15, 16, 17] [18, 19, 20, 21, 22, 23, 24] [0, 1, 2, 3, 4, 5, 6, 7] (by decide) rfl rfl (by decide) (by decide) rfl hl.1 rfl (Nat.le_of_ble_eq_true rfl) dL_law_647 ⟨Nat.le_of_ble_eq_true rfl, Nat.le_of_ble_eq_true rfl⟩ (fun c1 H locs hP hD hS => ?_) (fun c1 H locs hP hD hS => ?_)
  · have hP := hP.sub (ws' := (wM ad cA u.1 dv ib u.2.1 hs ht (nI c0) (nI u.2.2.1) u.2.2.2.1 u.2.2.2.2.1 (nI kd) u.2.2.2.2.2.1 u.2.2.2.2.2.2 Ac ts g lt) ++ (wN an cB u.1 u.2.2.2.2.2.2 Ac g lt ts u.2.2.2.2.2.1 (nI c0) hs ht (nI kd) pa ib ac2)) [7, 8, 9, 10, 11, 12, 13, 14, 15, 16, 17, 18, 19, 20, 21, 22, 23, 24, 0, 1, 2, 3, 4, 5, 6] rfl
    have hD := hD.sub (ws' := (wM ad cA u.1 dv ib u.2.1 hs ht (nI c0) (nI u.2.2.1) u.2.2.2.1 u.2.2.2.2.1 (nI kd) u.2.2.2.2.2.1 u.2.2.2.2.2.2 Ac ts g lt) ++ (wN an cB u.1 u.2.2.2.2.2.2 Ac g lt ts u.2.2.2.2.2.1 (nI c0) hs ht (nI kd) pa ib ac2)) [7, 8, 9, 10, 11, 12, 13, 14, 15, 16, 17, 18, 19, 20, 21, 22, 23, 24, 0, 1, 2, 3, 4, 5, 6] (by decide) rfl
    refine lv_aload_n hx hb dL_law_650 rfl (lv_at hl 1 rfl) ?_
    refine ct_cvc (As := []) (rest := [.int 1]) (wr := (wM ad cA u.1 dv ib u.2.1 hs ht (nI c0) (nI u.2.2.1) u.2.2.2.1 u.2.2.2.2.1 (nI kd) u.2.2.2.2.2.1 u.2.2.2.2.2.2 Ac ts g lt)) (w1 := (wN an cB u.1 u.2.2.2.2.2.2 Ac g lt ts u.2.2.2.2.2.1 (nI c0) hs ht (nI kd) pa ib ac2)) (w0 := (wN an cB u.1 u.2.2.2.2.2.2 Ac g lt ts u.2.2.2.2.2.1 (nI c0) hs ht (nI kd) pa ib ac2)) ⟨hx, hb, hml, hown, hts⟩ (cN_converted l dC dI tt _ an cB u.1 u.2.2.2.2.2.2 Ac g lt ts u.2.2.2.2.2.1 (nI c0) hs ht (nI kd) pa ib ac2 (J_starch HJ hk)) (gT_V tw_m_L_74 tw_i_yN_converted tw_s_yN_converted tw_I_N tw_c_yN_converted) ⟨rfl, by decide +kernel, by decide +kernel, (by decide +kernel : (parseMethodDescriptor yN_converted.desc).map (fun d => d.parameters.length) = some 0)⟩ ⟨Nat.le_of_ble_eq_true rfl, Nat.le_of_ble_eq_true rfl⟩ (ci := 3) rfl rfl rfl hP hD hK hS hA hT [18, 19, 20, 21, 22, 23, 24] [0, 1, 2, 3, 4, 5, 6, 7, 8, 9, 10, 11, 12, 13, 14, 15, 16, 17] [8, 9, 10, 11, 12, 13] (by decide) rfl rfl (by decide) (by decide) rfl hl.1 rfl (Nat.le_of_ble_eq_true rfl) dL_law_651 ⟨Nat.le_of_ble_eq_true rfl, Nat.le_of_ble_eq_true rfl⟩ (fun c2 H locs hP hD hS => ?_) (fun c2 H locs hP hD hS => ?_)
    · have hP : va_P (dC, dI) cls ((wM ad cA u.1 dv ib u.2.1 hs ht (nI c0) (nI u.2.2.1) u.2.2.2.1 u.2.2.2.2.1 (nI kd) u.2.2.2.2.2.1 u.2.2.2.2.2.2 Ac ts g lt) ++ (wN an cB u.1 u.2.2.2.2.2.2 Ac g lt ts u.2.2.2.2.2.1 (nI c0) hs ht (nI kd) pa ib ac2)) H := hP
      have hD : va_D _ ((wM ad cA u.1 dv ib u.2.1 hs ht (nI c0) (nI u.2.2.1) u.2.2.2.1 u.2.2.2.2.1 (nI kd) u.2.2.2.2.2.1 u.2.2.2.2.2.2 Ac ts g lt) ++ (wN an cB u.1 u.2.2.2.2.2.2 Ac g lt ts u.2.2.2.2.2.1 (nI c0) hs ht (nI kd) pa ib ac2)) := hD
      refine lv_icmp_eq (tgt := 659) hx hb dL_law_654 (by decide) (fun c3 => ?_) (fun c3 => ?_)
      · exact next u dv ib hs ht c0 kd Ac ts g lt pa ac2 _ _ _ (JI.next HJ) hP hD hS (lv_sub hl [0, 1, 2, 3] rfl)
      · exact absurd rfl c3
    · exact absurd c1 c2
  · have hP := hP.sub (ws' := (wM ad cA u.1 dv ib u.2.1 hs ht (nI c0) (nI u.2.2.1) u.2.2.2.1 u.2.2.2.2.1 (nI kd) u.2.2.2.2.2.1 u.2.2.2.2.2.2 Ac ts g lt) ++ (wN an cB u.1 u.2.2.2.2.2.2 Ac g lt ts u.2.2.2.2.2.1 (nI c0) hs ht (nI kd) pa ib ac2)) [7, 8, 9, 10, 11, 12, 13, 14, 15, 16, 17, 18, 19, 20, 21, 22, 23, 24, 0, 1, 2, 3, 4, 5, 6] rfl
    have hD := hD.sub (ws' := (wM ad cA u.1 dv ib u.2.1 hs ht (nI c0) (nI u.2.2.1) u.2.2.2.1 u.2.2.2.2.1 (nI kd) u.2.2.2.2.2.1 u.2.2.2.2.2.2 Ac ts g lt) ++ (wN an cB u.1 u.2.2.2.2.2.2 Ac g lt ts u.2.2.2.2.2.1 (nI c0) hs ht (nI kd) pa ib ac2)) [7, 8, 9, 10, 11, 12, 13, 14, 15, 16, 17, 18, 19, 20, 21, 22, 23, 24, 0, 1, 2, 3, 4, 5, 6] (by decide) rfl
    refine lv_aload_n hx hb dL_law_650 rfl (lv_at hl 1 rfl) ?_
    refine ct_cvc (As := []) (rest := [.int 0]) (wr := (wM ad cA u.1 dv ib u.2.1 hs ht (nI c0) (nI u.2.2.1) u.2.2.2.1 u.2.2.2.2.1 (nI kd) u.2.2.2.2.2.1 u.2.2.2.2.2.2 Ac ts g lt)) (w1 := (wN an cB u.1 u.2.2.2.2.2.2 Ac g lt ts u.2.2.2.2.2.1 (nI c0) hs ht (nI kd) pa ib ac2)) (w0 := (wN an cB u.1 u.2.2.2.2.2.2 Ac g lt ts u.2.2.2.2.2.1 (nI c0) hs ht (nI kd) pa ib ac2)) ⟨hx, hb, hml, hown, hts⟩ (cN_converted l dC dI tt _ an cB u.1 u.2.2.2.2.2.2 Ac g lt ts u.2.2.2.2.2.1 (nI c0) hs ht (nI kd) pa ib ac2 (J_starch HJ hk)) (gT_V tw_m_L_74 tw_i_yN_converted tw_s_yN_converted tw_I_N tw_c_yN_converted) ⟨rfl, by decide +kernel, by decide +kernel, (by decide +kernel : (parseMethodDescriptor yN_converted.desc).map (fun d => d.parameters.length) = some 0)⟩ ⟨Nat.le_of_ble_eq_true rfl, Nat.le_of_ble_eq_true rfl⟩ (ci := 3) rfl rfl rfl hP hD hK hS hA hT [18, 19, 20, 21, 22, 23, 24] [0, 1, 2, 3, 4, 5, 6, 7, 8, 9, 10, 11, 12, 13, 14, 15, 16, 17] [8, 9, 10, 11, 12, 13] (by decide) rfl rfl (by decide) (by decide) rfl hl.1 rfl (Nat.le_of_ble_eq_true rfl) dL_law_651 ⟨Nat.le_of_ble_eq_true rfl, Nat.le_of_ble_eq_true rfl⟩ (fun c2 H locs hP hD hS => ?_) (fun c2 H locs hP hD hS => ?_)
    · exact absurd c2 c1
    · have hP : va_P (dC, dI) cls ((wM ad cA u.1 dv ib u.2.1 hs ht (nI c0) (nI u.2.2.1) u.2.2.2.1 u.2.2.2.2.1 (nI kd) u.2.2.2.2.2.1 u.2.2.2.2.2.2 Ac ts g lt) ++ (wN an cB u.1 u.2.2.2.2.2.2 Ac g lt ts u.2.2.2.2.2.1 (nI c0) hs ht (nI kd) pa ib ac2)) H := hP
      have hD : va_D _ ((wM ad cA u.1 dv ib u.2.1 hs ht (nI c0) (nI u.2.2.1) u.2.2.2.1 u.2.2.2.2.1 (nI kd) u.2.2.2.2.2.1 u.2.2.2.2.2.2 Ac ts g lt) ++ (wN an cB u.1 u.2.2.2.2.2.2 Ac g lt ts u.2.2.2.2.2.1 (nI c0) hs ht (nI kd) pa ib ac2)) := hD
      refine lv_icmp_eq (tgt := 659) hx hb dL_law_654 (by decide) (fun c3 => ?_) (fun c3 => ?_)
      · exact next u dv ib hs ht c0 kd Ac ts g lt pa ac2 _ _ _ (JI.next HJ) hP hD hS (lv_sub hl [0, 1, 2, 3] rfl)
      · exact absurd rfl c3

end LX
