/-! the law's loop, and its entry -/
section LL
variable {p : Program} {l : Launch} {e : Env} {s : State} {m : MethodId} {below : List Frame} {meth : Method} {c : Code} {dC : Nat → ClassId} {dI : Nat → Nat → Nat} {tt : Nat → Nat} {b L : Nat} {xs : Nat → Int32} {ad : Nat → Nat} {cA : Nat → ClassId} {an : Nat → Nat} {cB : Nat → ClassId}
set_option maxHeartbeats 4000000 in
set_option maxRecDepth 100000 in
theorem lw_loop (C1 : LC p s m meth c dC dI tt b L xs cA cB) : ∀ (n k : Nat), L + 4 ≤ 4 * k + 4 * n → 4 * k ≤ L → LW p l e s m below meth c dC dI b ad cA an cB 18 (4 * k) k := by
  obtain ⟨hx, hb, hr, hml, hown, hts, hX, hbl, hlocks, hK, hT, hL⟩ := id C1
  have hA : ∀ q : Nat, s.heap.size ≤ q → (fun q : Nat => s.heap.size ≤ q) q := fun _ h => h
  have hbA : ¬ (fun q : Nat => s.heap.size ≤ q) b := Nat.not_le.mpr hbl
  intro n
  induction n with
  | zero =>
    intro k h1 h2
    exact absurd h1 (by omega)
  | succ n ih =>
    intro k hn hk
    intro u dv ib hs ht c0 kd Ac ts g lt pa ac2 H locs ls HJ hP hD hS hl
    refine lv_iload_n hx hb dL_law_18 rfl (lv_at hl 0 rfl) ?_
    refine lv_aload_n hx hb dL_law_19 rfl (lv_at hl 3 rfl) ?_
    refine va_slen hx hb hX hbl hbA hS dL_law_20 ?_
    refine lv_iconst (v := 4) hx hb dL_law_21 (by decide) ?_
    refine lv_isub hx hb dL_law_22 ?_
    refine lv_icmp_gt (tgt := 665) hx hb dL_law_23 (by decide) (fun c1 => ?_) (fun c1 => ?_)
    · refine lv_iconst (v := 1) hx hb dL_law_665 (by decide) ?_
      refine va_forget (fun q hq => hS.2.2 q hq) ?_
      refine W.widen (k := 600000) (n := 7302250) (Nat.le_of_ble_eq_true rfl) (Nat.le_of_ble_eq_true rfl) ?_
      exact lw_ret hx hb hr hlocks dL_law_666
    · have h4 : 4 * k + 4 ≤ L := by
        rcases Nat.lt_or_ge L (4 * k + 4) with q | q
        · refine absurd (Int32.lt_iff_toInt_lt.mpr ?_) c1
          rw [show (Int32.ofNat L - 4).toInt = (L : Int) - (4 : Nat) from pk_sub_toInt (a := L) (b := 4) (by omega) (by decide), nI_toInt (by omega)]
          omega
        · exact q
      have nx : LW p l e s m below meth c dC dI b ad cA an cB 659 (4 * k) (k + 1) := by
        intro u dv ib hs ht c0 kd Ac ts g lt pa ac2 H locs ls HJ hP hD hS hl
        refine lv_iinc (v := nI (4 * (k + 1))) (lv' := [(3, .int (nI (4 * (k + 1)))), (2, .ref (an 0)), (1, .ref (ad 0)), (0, .ref b)]) hx hb dL_law_659 hl (k := 0) rfl (nI_add (4 * k) 4) (by decide) rfl (fun ls hl => ?_)
        refine lv_goto (tgt := 18) hx hb dL_law_662 (by decide) ?_
        exact ih (k + 1) (by omega) (by omega) u dv ib hs ht c0 kd Ac ts g lt pa ac2 H locs ls HJ hP hD hS hl
      refine lv_aload_n hx hb dL_law_26 rfl (lv_at hl 3 rfl) ?_
      refine lv_iload_n hx hb dL_law_27 rfl (lv_at hl 0 rfl) ?_
      refine va_sld hx hb hX hbl hbA hS (vp_in_nI (by omega) (by omega)) dL_law_28 ?_
      refine lv_bipush (v := 15) hx hb dL_law_29 (by decide) ?_
      refine lv_iand hx hb dL_law_31 ?_
      obtain ⟨j, hj, ej⟩ := pk_andE (xs (nI (4 * k)).toNatClampNeg) (m := 15) 4 (by decide)
      refine ct_topi (y := nI j) ej ?_
      rcases (show j = 0 ∨ j = 1 ∨ j = 2 ∨ j = 3 ∨ j = 4 ∨ j = 5 ∨ j = 6 ∨ j = 7 ∨ j = 8 ∨ j = 9 ∨ j = 10 ∨ j = 11 ∨ j = 12 ∨ 13 ≤ j by omega) with rfl | rfl | rfl | rfl | rfl | rfl | rfl | rfl | rfl | rfl | rfl | rfl | rfl | hj2
      · exact lv_tableIn (off := 68) (tgt := 100) hx hb dL_law_32 (by decide) (by decide) (by decide) (by decide) (lc_grain C1 h4 nx u dv ib hs ht c0 kd Ac ts g lt pa ac2 H locs ls HJ hP hD hS hl)
      · exact lv_tableIn (off := 131) (tgt := 163) hx hb dL_law_32 (by decide) (by decide) (by decide) (by decide) (lc_liquor C1 h4 nx u dv ib hs ht c0 kd Ac ts g lt pa ac2 H locs ls HJ hP hD hS hl)
      · exact lv_tableIn (off := 204) (tgt := 236) hx hb dL_law_32 (by decide) (by decide) (by decide) (by decide) (lc_enzyme C1 h4 nx u dv ib hs ht c0 kd Ac ts g lt pa ac2 H locs ls HJ hP hD hS hl)
      · exact lv_tableIn (off := 247) (tgt := 279) hx hb dL_law_32 (by decide) (by decide) (by decide) (by decide) (lc_step C1 h4 nx u dv ib hs ht c0 kd Ac ts g lt pa ac2 H locs ls HJ hP hD hS hl)
      · exact lv_tableIn (off := 290) (tgt := 322) hx hb dL_law_32 (by decide) (by decide) (by decide) (by decide) (lc_run C1 h4 nx u dv ib hs ht c0 kd Ac ts g lt pa ac2 H locs ls HJ hP hD hS hl)
      · exact lv_tableIn (off := 313) (tgt := 345) hx hb dL_law_32 (by decide) (by decide) (by decide) (by decide) (lc_sugar C1 h4 nx u dv ib hs ht c0 kd Ac ts g lt pa ac2 H locs ls HJ hP hD hS hl)
      · exact lv_tableIn (off := 364) (tgt := 396) hx hb dL_law_32 (by decide) (by decide) (by decide) (by decide) (lc_starch C1 h4 nx u dv ib hs ht c0 kd Ac ts g lt pa ac2 H locs ls HJ hP hD hS hl)
      · exact lv_tableIn (off := 405) (tgt := 437) hx hb dL_law_32 (by decide) (by decide) (by decide) (by decide) (lc_left C1 h4 nx u dv ib hs ht c0 kd Ac ts g lt pa ac2 H locs ls HJ hP hD hS hl)
      · exact lv_tableIn (off := 456) (tgt := 488) hx hb dL_law_32 (by decide) (by decide) (by decide) (by decide) (lc_degrees C1 h4 nx u dv ib hs ht c0 kd Ac ts g lt pa ac2 H locs ls HJ hP hD hS hl)
      · exact lv_tableIn (off := 497) (tgt := 529) hx hb dL_law_32 (by decide) (by decide) (by decide) (by decide) (lc_take C1 h4 nx u dv ib hs ht c0 kd Ac ts g lt pa ac2 H locs ls HJ hP hD hS hl)
      · exact lv_tableIn (off := 530) (tgt := 562) hx hb dL_law_32 (by decide) (by decide) (by decide) (by decide) (lc_back C1 h4 nx u dv ib hs ht c0 kd Ac ts g lt pa ac2 H locs ls HJ hP hD hS hl)
      · exact lv_tableIn (off := 573) (tgt := 605) hx hb dL_law_32 (by decide) (by decide) (by decide) (by decide) (lc_water C1 h4 nx u dv ib hs ht c0 kd Ac ts g lt pa ac2 H locs ls HJ hP hD hS hl)
      · exact lv_tableIn (off := 614) (tgt := 646) hx hb dL_law_32 (by decide) (by decide) (by decide) (by decide) (lc_converted C1 h4 nx u dv ib hs ht c0 kd Ac ts g lt pa ac2 H locs ls HJ hP hD hS hl)
      · exact lv_tableOut (tgt := 659) hx hb dL_law_32 (Or.inr (by rw [nI_toInt (by omega)]; omega)) (by decide) (nx u dv ib hs ht c0 kd Ac ts g lt pa ac2 H locs ls (JI.next HJ) hP hD hS hl)
end LL
theorem sT1_of {args : Array Value} {s : State} {C n : String} {N : Nat} {f : Nat → Nat} (hN : N < 2 ^ 31) (hl : (Cond.laysStatic C n "[I").before args s = true) (hini : (Cond.initialized C).before args s = true) (harr : (Cond.arrayOf (.static C n "[I") .int).before args s = true) (hlen : (Cond.eq (.length (.static C n "[I")) (.int (Int32.ofNat N))).before args s = true) (hel : ∀ j : Nat, j < N → (Cond.eq (.elem (.static C n "[I") (.int (Int32.ofNat j))) (.int (nI (f j)))).before args s = true) : ∃ t : Nat, sT1 C n t N f (fun q : Nat => s.heap.size ≤ q) s s.heap := by
  have hA : ∀ a : Nat, a < s.heap.size → ¬ (fun q : Nat => s.heap.size ≤ q) a := fun a h => Nat.not_le.mpr h
  obtain ⟨t, h1, h2⟩ := va_Tof (f := fun j => .int (nI (f j))) hN harr (va_eqt hlen) (fun j hj => va_eqt (hel j hj)) hA
  exact ⟨t, va_Zref hl hini h1 hA, h2⟩
theorem te_M_GRAIN_PROTEIN : ∀ j : Nat, j < 3 → Cond.eq (.elem (.static "MashEnzymes" "GRAIN_PROTEIN" "[I") (.int (Int32.ofNat j))) (.int (nI (tb_GP j))) ∈ flatC (Jvm.Cond.and given_1 narrow_1) := by decide +kernel
theorem te_M_GRAIN_ENZYMES : ∀ j : Nat, j < 12 → Cond.eq (.elem (.static "MashEnzymes" "GRAIN_ENZYMES" "[I") (.int (Int32.ofNat j))) (.int (nI (tb_GE j))) ∈ flatC (Jvm.Cond.and given_1 narrow_1) := by decide +kernel
theorem te_Q_MARK_DEGREES : ∀ j : Nat, j < 9 → Cond.eq (.elem (.static "MashEnzymes$Rows" "MARK_DEGREES" "[I") (.int (Int32.ofNat j))) (.int (nI (tb_MD j))) ∈ flatC (Jvm.Cond.and given_1 narrow_1) := by decide +kernel
theorem te_Q_TABLE : ∀ j : Nat, j < 81 → Cond.eq (.elem (.static "MashEnzymes$Rows" "TABLE" "[I") (.int (Int32.ofNat j))) (.int (nI (tb_TB j))) ∈ flatC (Jvm.Cond.and given_1 narrow_1) := by decide +kernel
theorem te_N_AT : ∀ j : Nat, j < 9 → Cond.eq (.elem (.static "MashEnzymesModel" "AT" "[I") (.int (Int32.ofNat j))) (.int (nI (tb_MD j))) ∈ flatC (Jvm.Cond.and given_1 narrow_1) := by decide +kernel
theorem te_N_ROWS : ∀ j : Nat, j < 81 → Cond.eq (.elem (.static "MashEnzymesModel" "ROWS" "[I") (.int (Int32.ofNat j))) (.int (nI (tb_RW j))) ∈ flatC (Jvm.Cond.and given_1 narrow_1) := by decide +kernel
theorem tw_nest : Cond.methodLinkNest "MashEnzymes" 27 yH_init "MashEnzymes" ∈ lw_tbl := List.mem_append_right _ (List.mem_of_getElem? (i := 17) (by decide +kernel))
theorem tw_over : Cond.arrayOver (.array .double) ∈ lw_tbl := List.mem_append_right _ (List.mem_of_getElem? (i := 14) (by decide +kernel))
theorem in_blind {dC : Nat → ClassId} {dI : Nat → Nat → Nat} {tt : Nat → Nat} {w : va_W} {sz : Nat} {av : List Value} : FrameBlind (va_Pc av (inP dC dI tt w sz)) := fun a U g mk q => by
  obtain ⟨q0, ⟨q1, qP, qK, qD, qT⟩, qN, qA⟩ := q
  exact ⟨q0, ⟨q1, qP, va_K.moved (u := U) (U := U.calling g mk a) (Vm.Alike.refl U.vm) qK, qD, qT.to (U := U.calling g mk a) (Vm.Alike.refl U.vm) (fun _ _ _ => rfl) (fun _ h => h)⟩, va_Nw.same rfl rfl qN, over_moved (u := U) (E := U.calling g mk a) (Vm.Alike.refl U.vm) qA⟩
/-- the start: nothing told -/
def u0 : SS := (fun _ => 0, fun _ => 0, 0, rwA 0 9 (fun _ => 0), 0, 0, 0)
theorem cnt_0 : ∀ n, cnt (fun _ => 0) n = 0 := by
  intro n
  induction n with
  | zero => rfl
  | succ n ih => unfold cnt; rw [ih]; rfl
theorem J_0 : JI 0 u0 (fun _ _ => 0) (fun _ => 0) (fun _ => 0) (fun _ => 0) 0 0 0 0 (fun _ => 0) := by
  have hz : ∀ m, ft_z 0 ≤ m := fun m => by rw [ft_0z]; exact Nat.zero_le _
  refine ⟨0, 0, Nat.zero_le _, Nat.zero_le _, rfl, fun i hi => ⟨ft_0P, hz _⟩, fun i hi => absurd hi (Nat.not_lt_zero _), ft_0P, hz _, ft_0P, hz _, ft_0P, hz _, Nat.zero_le _, Nat.zero_le _, fun i hi => absurd hi (Nat.not_lt_zero _), Nat.zero_le _, fun i hi => absurd hi (Nat.not_lt_zero _), ft_0P, fun k hk => ?_, fun i hi => absurd hi (Nat.not_lt_zero _), fun i hi => rfl⟩
  show rwA 0 9 (fun _ => 0) k = rwv 0 k (mk 0)
  exact if_pos hk
set_option maxHeartbeats 4000000 in
set_option maxRecDepth 100000 in
/-- the law, from its entry -/
theorem whole_start {p : Program} {e : Env} {s : State} {m : MethodId} {below : List Frame} {meth : Method} {c : Code} (l : Launch) {b L : Nat} {xs : Nat → Int32} (hL : L ≤ 2048) (C0 : lw_At p s m meth c b L xs) : W p l e room_1 s m #[Value.ref b] below meth c s.heap [] 0 0 (lw_Z below #[Value.ref b] s) (entryFrame m ([Value.ref b] : List Value).toArray 8) := by
  obtain ⟨hx, hb, hr, hml, hown, hts0, hX, hbl, hlocks, hgv⟩ := C0
  have hts : ∀ w ∈ wT, w.before #[Value.ref b] s = true := fun w h => hts0 w (wT_tbl w h)
  have hA : ∀ q : Nat, s.heap.size ≤ q → (fun q : Nat => s.heap.size ≤ q) q := fun _ h => h
  have hg := flat_of_before _ hgv
  obtain ⟨t0, hT0⟩ := sT1_of (C := "MashEnzymes") (n := "GRAIN_PROTEIN") (N := 3) (f := tb_GP) (by decide) (hts0 _ tw_ls_M_GRAIN_PROTEIN) (hts _ tw_I_M) (hg _ (by decide +kernel)) (hg _ (by decide +kernel)) (fun j hj => hg _ (te_M_GRAIN_PROTEIN j hj))
  obtain ⟨t1, hT1⟩ := sT1_of (C := "MashEnzymes") (n := "GRAIN_ENZYMES") (N := 12) (f := tb_GE) (by decide) (hts0 _ tw_ls_M_GRAIN_ENZYMES) (hts _ tw_I_M) (hg _ (by decide +kernel)) (hg _ (by decide +kernel)) (fun j hj => hg _ (te_M_GRAIN_ENZYMES j hj))
  obtain ⟨t2, hT2⟩ := sT1_of (C := "MashEnzymes$Rows") (n := "MARK_DEGREES") (N := 9) (f := tb_MD) (by decide) (hts0 _ tw_ls_Q_MARK_DEGREES) (hts _ tw_I_Q) (hg _ (by decide +kernel)) (hg _ (by decide +kernel)) (fun j hj => hg _ (te_Q_MARK_DEGREES j hj))
  obtain ⟨t3, hT3⟩ := sT1_of (C := "MashEnzymes$Rows") (n := "TABLE") (N := 81) (f := tb_TB) (by decide) (hts0 _ tw_ls_Q_TABLE) (hts _ tw_I_Q) (hg _ (by decide +kernel)) (hg _ (by decide +kernel)) (fun j hj => hg _ (te_Q_TABLE j hj))
  obtain ⟨t4, hT4⟩ := sT1_of (C := "MashEnzymesModel") (n := "AT") (N := 9) (f := tb_MD) (by decide) (hts0 _ tw_ls_N_AT) (hts _ tw_I_N) (hg _ (by decide +kernel)) (hg _ (by decide +kernel)) (fun j hj => hg _ (te_N_AT j hj))
  obtain ⟨t5, hT5⟩ := sT1_of (C := "MashEnzymesModel") (n := "ROWS") (N := 81) (f := tb_RW) (by decide) (hts0 _ tw_ls_N_ROWS) (hts _ tw_I_N) (hg _ (by decide +kernel)) (hg _ (by decide +kernel)) (fun j hj => hg _ (te_N_ROWS j hj))
  obtain ⟨tt, hT⟩ : ∃ tt : Nat → Nat, sT tt (fun q : Nat => s.heap.size ≤ q) s s.heap := ⟨fun n => [t0, t1, t2, t3, t4, t5].getD n 0, hT0, hT1, hT2, hT3, hT4, hT5⟩
  have hNw : va_Nw (.methodLinkNest "MashEnzymes" 27 yH_init "MashEnzymes") s := va_Nw.of rfl (hts0 _ tw_nest)
  have hAO : va_AOA .double s := va_AOA.of (hts0 _ tw_over)
  obtain ⟨c0, iS0, hKn0⟩ := u_known (C := "MashEnzymes") (T := F_M) (N := 13) (n := 13) hts in_M (hts _ tw_n_M)
  obtain ⟨c1, iS1, hKn1⟩ := u_known (C := "MashEnzymes$Heating") (T := F_H) (N := 4) (n := 4) hts in_H (hts _ tw_n_H)
  obtain ⟨c2, iS2, hKn2⟩ := u_known (C := "MashEnzymes$Rows") (T := F_Q) (N := 2) (n := 2) hts in_Q (hts _ tw_n_Q)
  obtain ⟨c3, iS3, hKn3⟩ := u_known (C := "MashEnzymesModel") (T := F_N) (N := 14) (n := 14) hts in_N (hts _ tw_n_N)
  obtain ⟨dC, dI, hKc⟩ : ∃ (dC : Nat → ClassId) (dI : Nat → Nat → Nat), ∀ (k : Nat) (q : vw_C), cls[k]? = some q → u_Kn s q.1 q.2.1 q.2.2 (dC k) (dI k) := by
    refine ⟨fun k => [c0, c1, c2, c3].getD k c0, fun k => [iS0, iS1, iS2, iS3].getD k iS0, ?_⟩
    intro k q hq
    match k, hq with
    | 0, hq => cases hq; exact hKn0
    | 1, hq => cases hq; exact hKn1
    | 2, hq => cases hq; exact hKn2
    | 3, hq => cases hq; exact hKn3
    | k + 4, hq => simp [cls] at hq
  have hS : va_S (fun q : Nat => s.heap.size ≤ q) s.heap s.heap [] := va_S.rf
  have hK : va_K (dC, dI) cls [] s := ⟨hKc, fun k q h => by simp at h⟩
  have hP : va_P (dC, dI) cls [] s.heap := fun k q h => by simp at h
  have hD : va_D (fun q : Nat => s.heap.size ≤ q) [] := ⟨fun i j p q h => by simp at h, fun k q h => by simp at h⟩
  have hl := lv_entry ([.ref b]) (n := 8) (Nat.le_of_ble_eq_true rfl)
  rw [lg_entry_eq]
  generalize (lg_sl ([.ref b]) ++ List.replicate (8 - (lg_sl ([.ref b])).length) Slot.unset).toArray = ls at hl ⊢
  have hl : lv_has ls 8 [(0, .ref b)] := hl
  refine va_new (ci := 0) (fs := [.null, .null, .null, .null, .null, .null, .int 0, .int 0, .double 0, .double 0, .double 0, .int 0, .int 0]) (C := "MashEnzymes") (T := F_M) (N := 13) hx hb hts in_M t_M t_M_ok hown (hts _ tw_cl_L_7) (hts _ tw_n_M) (hts _ tw_I_M) hK hP hD hS hA rfl (fun j hj => by rcases (show j = 0 ∨ j = 1 ∨ j = 2 ∨ j = 3 ∨ j = 4 ∨ j = 5 ∨ j = 6 ∨ j = 7 ∨ j = 8 ∨ j = 9 ∨ j = 10 ∨ j = 11 ∨ j = 12 by omega) with rfl | rfl | rfl | rfl | rfl | rfl | rfl | rfl | rfl | rfl | rfl | rfl | rfl <;> rfl) (Nat.le_of_ble_eq_true rfl) (Nat.le_of_ble_eq_true rfl) dL_law_0 (fun q0 H hP hD hS => ?_)
  have hP : va_P (dC, dI) cls [(q0, .inr (0, [.null, .null, .null, .null, .null, .null, .int 0, .int 0, .double 0, .double 0, .double 0, .int 0, .int 0]))] H := hP
  have hD : va_D (fun q : Nat => s.heap.size ≤ q) [(q0, .inr (0, [.null, .null, .null, .null, .null, .null, .int 0, .int 0, .double 0, .double 0, .double 0, .int 0, .int 0]))] := hD
  refine W.widen (k := 1) (n := 13) (Nat.le_of_ble_eq_true rfl) (Nat.le_of_ble_eq_true rfl) ?_
  refine lv_dup hx hb dL_law_3 rfl ?_
  have hFc := va_free (wc := [(q0, .inr (0, [.null, .null, .null, .null, .null, .null, .int 0, .int 0, .double 0, .double 0, .double 0, .int 0, .int 0]))]) hD hS hA [0] rfl
  refine va_callv (va_runI (As := []) (rest := [.ref q0]) ⟨hx, hb, hml, hown, hts⟩ (cM_init l dC dI tt H.size q0) (cwI 0 hts (gT_I tw_c_yM_init) rfl rfl rfl (hts _ tw_I_M) (hts _ tw_m_L_9) (hts _ tw_i_yM_init) rfl (by decide +kernel) ⟨Nat.le_of_ble_eq_true rfl, Nat.le_of_ble_eq_true rfl⟩) ⟨in_blind, fun U hU hW => ⟨rfl, (ct_pre (av := [.ref q0]) (isC := [0]) (tyi := []) hP hD hK hS hA hT (by decide) rfl rfl U hU hW).2, va_Nw.warmM hW hNw, over_moved hW.alike hAO⟩⟩ rfl rfl hl.1 rfl (lv_room (Nat.le_of_ble_eq_true rfl)) dL_law_4 ⟨Nat.le_of_ble_eq_true rfl, Nat.le_of_ble_eq_true rfl⟩) hS (fun q _ h => hFc q h) hFc (fun u t H1 locs ht hvm hw hB hz1 hk1 hS => ?_)
  obtain ⟨ad, cA⟩ := u
  obtain ⟨hP1, hK1, hD1⟩ := hB
  rw [ht] at hP1
  have hK1 := va_K.moved hvm.symm hK1
  obtain ⟨hP, hD⟩ := va_join (wr := []) (w1 := (wM ad cA (fun _ => 0) (fun _ => (fun _ => 0)) (fun _ => 0) (fun _ => 0) (fun _ => 0) (fun _ => 0) 0 0 (rwA 0 9 (fun _ => 0)) 0 0 0 0 0 0 0 0)) hP hD [0] [] rfl rfl (by decide) (by decide) hk1 hFc hP1 hD1
  have hK := hK.app hK1
  generalize H1 = H at hP hS ⊢
  have hP : va_P (dC, dI) cls (wM ad cA (fun _ => 0) (fun _ => (fun _ => 0)) (fun _ => 0) (fun _ => 0) (fun _ => 0) (fun _ => 0) 0 0 (rwA 0 9 (fun _ => 0)) 0 0 0 0 0 0 0 0) H := hP
  have hD : va_D (fun q : Nat => s.heap.size ≤ q) (wM ad cA (fun _ => 0) (fun _ => (fun _ => 0)) (fun _ => 0) (fun _ => 0) (fun _ => 0) (fun _ => 0) 0 0 (rwA 0 9 (fun _ => 0)) 0 0 0 0 0 0 0 0) := hD
  have hK : va_K (dC, dI) cls (tM cA) s := hK
  refine ct_topv (y := .ref (ad 0)) (congrArg Value.ref (Eq.symm hw)) ?_
  refine W.widen (k := 18) (n := 229) (Nat.le_of_ble_eq_true rfl) (Nat.le_of_ble_eq_true rfl) ?_
  refine lv_astore_n (lv' := [(1, .ref (ad 0)), (0, .ref b)]) hx hb dL_law_7 rfl hl (by decide) rfl (fun ls hl => ?_)
  refine va_new (ci := 3) (fs := [.null, .double 0, .double 0, .int 0, .int 0, .double 0, .int 0, .int 0, .null, .null, .int 0, .null, .null, .null]) (C := "MashEnzymesModel") (T := F_N) (N := 14) hx hb hts in_N t_N t_N_ok hown (hts _ tw_cl_L_10) (hts _ tw_n_N) (hts _ tw_I_N) hK hP hD hS hA rfl (fun j hj => by rcases (show j = 0 ∨ j = 1 ∨ j = 2 ∨ j = 3 ∨ j = 4 ∨ j = 5 ∨ j = 6 ∨ j = 7 ∨ j = 8 ∨ j = 9 ∨ j = 10 ∨ j = 11 ∨ j = 12 ∨ j = 13 by omega) with rfl | rfl | rfl | rfl | rfl | rfl | rfl | rfl | rfl | rfl | rfl | rfl | rfl | rfl <;> rfl) (Nat.le_of_ble_eq_true rfl) (Nat.le_of_ble_eq_true rfl) dL_law_8 (fun q1 H hP hD hS => ?_)
  have hP : va_P (dC, dI) cls ((wM ad cA (fun _ => 0) (fun _ => (fun _ => 0)) (fun _ => 0) (fun _ => 0) (fun _ => 0) (fun _ => 0) 0 0 (rwA 0 9 (fun _ => 0)) 0 0 0 0 0 0 0 0) ++ [(q1, .inr (3, [.null, .double 0, .double 0, .int 0, .int 0, .double 0, .int 0, .int 0, .null, .null, .int 0, .null, .null, .null]))]) H := hP
  have hD : va_D (fun q : Nat => s.heap.size ≤ q) ((wM ad cA (fun _ => 0) (fun _ => (fun _ => 0)) (fun _ => 0) (fun _ => 0) (fun _ => 0) (fun _ => 0) 0 0 (rwA 0 9 (fun _ => 0)) 0 0 0 0 0 0 0 0) ++ [(q1, .inr (3, [.null, .double 0, .double 0, .int 0, .int 0, .double 0, .int 0, .int 0, .null, .null, .int 0, .null, .null, .null]))]) := hD
  refine W.widen (k := 19) (n := 243) (Nat.le_of_ble_eq_true rfl) (Nat.le_of_ble_eq_true rfl) ?_
  refine lv_dup hx hb dL_law_11 rfl ?_
  have hFc := va_free (wc := [(q1, .inr (3, [.null, .double 0, .double 0, .int 0, .int 0, .double 0, .int 0, .int 0, .null, .null, .int 0, .null, .null, .null]))]) hD hS hA [18] rfl
  refine va_callv (va_runI (As := []) (rest := [.ref q1]) ⟨hx, hb, hml, hown, hts⟩ (cN_init l dC dI tt H.size q1) (cwI 0 hts (gT_I tw_c_yN_init) rfl rfl rfl (hts _ tw_I_N) (hts _ tw_m_L_12) (hts _ tw_i_yN_init) rfl (by decide +kernel) ⟨Nat.le_of_ble_eq_true rfl, Nat.le_of_ble_eq_true rfl⟩) ⟨ct_blind, fun U hU hW => ct_pre (isC := [18]) (tyi := []) hP hD hK hS hA hT (by decide) rfl rfl U hU hW⟩ rfl rfl hl.1 rfl (lv_room (Nat.le_of_ble_eq_true rfl)) dL_law_12 ⟨Nat.le_of_ble_eq_true rfl, Nat.le_of_ble_eq_true rfl⟩) hS (fun q _ h => hFc q h) hFc (fun u t H1 locs ht hvm hw hB hz1 hk1 hS => ?_)
  obtain ⟨an, cB⟩ := u
  obtain ⟨hP1, hK1, hD1⟩ := hB
  rw [ht] at hP1
  have hK1 := va_K.moved hvm.symm hK1
  obtain ⟨hP, hD⟩ := va_join (wr := (wM ad cA (fun _ => 0) (fun _ => (fun _ => 0)) (fun _ => 0) (fun _ => 0) (fun _ => 0) (fun _ => 0) 0 0 (rwA 0 9 (fun _ => 0)) 0 0 0 0 0 0 0 0)) (w1 := (wN an cB (fun _ => 0) 0 0 0 0 0 0 0 (fun _ => 0) (fun _ => 0) 0 (fun _ => 0) (fun _ => 0) (fun _ => 0))) hP hD [18] [0, 1, 2, 3, 4, 5, 6, 7, 8, 9, 10, 11, 12, 13, 14, 15, 16, 17] rfl rfl (by decide) (by decide) hk1 hFc hP1 hD1
  have hK := hK.app hK1
  generalize H1 = H at hP hS ⊢
  refine ct_topv (y := .ref (an 0)) (congrArg Value.ref (Eq.symm hw)) ?_
  refine W.widen (k := 25) (n := 436) (Nat.le_of_ble_eq_true rfl) (Nat.le_of_ble_eq_true rfl) ?_
  refine lv_astore_n (lv' := [(2, .ref (an 0)), (1, .ref (ad 0)), (0, .ref b)]) hx hb dL_law_15 rfl hl (by decide) rfl (fun ls hl => ?_)
  refine lv_iconst (v := 0) hx hb dL_law_16 (by decide) ?_
  refine lv_istore_n (lv' := [(3, .int 0), (2, .ref (an 0)), (1, .ref (ad 0)), (0, .ref b)]) hx hb dL_law_17 rfl hl (by decide) rfl (fun ls hl => ?_)
  exact lw_loop ⟨hx, hb, hr, hml, hown, hts, hX, hbl, hlocks, hK, hT, hL⟩ (L + 1) 0 (by omega) (Nat.zero_le _) u0 (fun _ _ => 0) (fun _ => 0) (fun _ => 0) (fun _ => 0) 0 0 0 0 0 0 (fun _ => 0) (fun _ => 0) H locs ls J_0 hP hD hS hl
