/-- an answer that a condition decides -/
abbrev ctQc (dC : Nat → ClassId) (dI : Nat → Nat → Nat) (tys : List (ClassId × FieldType)) (cond : Prop) (r1 : Int32) (w1 : va_W) (r0 : Int32) (w0 : va_W) (A : Nat → Prop) := va_Qi (fun x (b : Bool) => (b = true ↔ cond) ∧ x = bif b then r1 else r0) (fun b t => ctB dC dI tys (bif b then w1 else w0) A t) A
section CT3
variable {p : Program} {l : Launch} {e : Env} {R : Room} {s : State} {m : MethodId} {args : Array Value} {below : List Frame} {meth : Method} {c : Code} {H : Heap} {locs : List Loc} {cells slots : Nat} {Q : State → Prop}
variable {cc : ByteArray} {pc nL : Nat} {ls : Array Slot} {rest As : List Value} {dC : Nat → ClassId} {dI : Nat → Nat → Nat} {tt : Nat → Nat} {A : Nat → Prop} {tys tysc : List (ClassId × FieldType)} {ws wc wr w1 : va_W}
variable {own C : String} {index : Nat} {y : MethodName} {b : ByteArray} {n : Nat} {ret : Option FieldType} {rm : Room} {h : Nat}
theorem ct_ret1 {v r1 r0 : Int32} {w0 : va_W} {cond : Prop} {ty : FieldType} (hexec : p.tables.exec = Jvm.exec) (hb : c.code = cc) (hr : meth.sig.returnType = some ty) (hn : narrow ty (.int v) = .int v) (hlocks : meth.locks = false) (hP : va_P (dC, dI) cls ws H) (hK : va_K (dC, dI) cls tys s) (hD : va_D A ws) (hS : va_S A s.heap H locs) (hc : cond) (hv : v = r1) (hdg : decode cc pc = .ok (.ireturn, 1)) :
    W p l e R s m args below meth c H locs cells slots (MQ below (ctQc dC dI tys cond r1 ws r0 w0 A) args s cells slots A) (F0 m pc ls [.int v]) :=
  W.zret hexec hb hr hn (fun t ht hW => ⟨⟨v, true, rfl, ⟨iff_of_true rfl hc, hv⟩, by rw [ht]; exact hP, va_K.moved hW.alike hK, hD⟩, hS.F ht⟩) hS.2.2 hdg hlocks
theorem ct_ret0 {v r1 r0 : Int32} {w1 : va_W} {cond : Prop} {ty : FieldType} (hexec : p.tables.exec = Jvm.exec) (hb : c.code = cc) (hr : meth.sig.returnType = some ty) (hn : narrow ty (.int v) = .int v) (hlocks : meth.locks = false) (hP : va_P (dC, dI) cls ws H) (hK : va_K (dC, dI) cls tys s) (hD : va_D A ws) (hS : va_S A s.heap H locs) (hc : ¬ cond) (hv : v = r0) (hdg : decode cc pc = .ok (.ireturn, 1)) :
    W p l e R s m args below meth c H locs cells slots (MQ below (ctQc dC dI tys cond r1 w1 r0 ws A) args s cells slots A) (F0 m pc ls [.int v]) :=
  W.zret hexec hb hr hn (fun t ht hW => ⟨⟨v, false, rfl, ⟨iff_of_false (by decide) hc, hv⟩, by rw [ht]; exact hP, va_K.moved hW.alike hK, hD⟩, hS.F ht⟩) hS.2.2 hdg hlocks
theorem ct_cvc {cond : Prop} {r1 r0 : Int32} {w0 : va_W} (S : CallFix p m c cc nL s args wT own) (hM : Ct l dC dI tt y b n ret rm tysc (.ref h :: As) wc H.size (fun A => ctQc dC dI tysc cond r1 w1 r0 w0 A)) (gw : GoodIn wT (wsV own index C y (.code y b n ret :: wT)))
    (hd : y.cls = C ∧ y.cls ≠ "java/lang/invoke/MethodHandle" ∧ y.cls ≠ "java/lang/invoke/VarHandle" ∧ (parseMethodDescriptor y.desc).map (fun d => d.parameters.length) = some As.length) (hR : rm.frames + 1 ≤ R.frames ∧ 8 + (n + 11) + rm.locals ≤ R.locals)
    {ci : Nat} {q : vw_C} {fs : List Value} (hc : cls[ci]? = some q) (hqC : q.1 = C) (hw : wc[0]? = some (h, .inr (ci, fs)))
    (hP : va_P (dC, dI) cls ws H) (hD : va_D A ws) (hK : va_K (dC, dI) cls tys s) (hS : va_S A s.heap H locs) (hA : ∀ q : Nat, s.heap.size ≤ q → A q) (hT : sT tt A s s.heap) (isC isR tyi : List Nat) (hn : va_nd isC = true) (hC : isC.map (fun i => ws[i]?) = wc.map some) (hRr : isR.map (fun i => ws[i]?) = wr.map some) (hnR : va_nd isR = true) (hdis : ∀ i ∈ isR, i ∉ isC) (hKc : tyi.filterMap (fun i => tys[i]?) = tysc)
    (hsize : ls.size = nL) {st : List Value} (hst : st = As.reverse ++ .ref h :: rest) (hrest : (rest.map fun v => v.category).sum ≤ 8) (hdg : decode cc pc = .ok (.invokevirtual index, 3)) (hf : cells + rm.cells ≤ R.cells ∧ slots + rm.slots ≤ R.slots)
    (kt : cond → ∀ (H1 : Heap) (locs1 : List Loc), va_P (dC, dI) cls (wr ++ w1) H1 → va_D A (wr ++ w1) → va_S A s.heap H1 locs1 → W p l e R s m args below meth c H1 locs1 (cells + rm.cells) (slots + rm.slots) Q (F0 m (pc + 3) ls (.int r1 :: rest)))
    (kf : ¬ cond → ∀ (H1 : Heap) (locs1 : List Loc), va_P (dC, dI) cls (wr ++ w0) H1 → va_D A (wr ++ w0) → va_S A s.heap H1 locs1 → W p l e R s m args below meth c H1 locs1 (cells + rm.cells) (slots + rm.slots) Q (F0 m (pc + 3) ls (.int r0 :: rest))) : W p l e R s m args below meth c H locs cells slots Q (F0 m pc ls st) := by
  subst hqC
  have hFc := va_free (wc := wc) hD hS hA isC hC
  refine va_calli (va_runV (As := As) (rest := rest) S hM (cwV As.length S.2.2.2.2 gw rfl rfl rfl hd hR) ⟨ct_blind, ct_recv hP hK hC hc hw, fun U hU hW => ct_pre hP hD hK hS hA hT hn hC hKc U hU hW⟩ rfl rfl hsize hst (lv_room hrest) hdg hf) hS (fun q _ h => hFc q h) hFc (fun r2 u t H1 locs ht hvm hw hB hz1 hk1 hS => ?_)
  obtain ⟨hP1, -, hD1⟩ := hB
  rw [ht] at hP1
  obtain ⟨hP, hD⟩ := va_join hP hD isC isR hC hRr hnR hdis hk1 hFc hP1 hD1
  obtain ⟨hc, hw⟩ := hw
  cases u with
  | true =>
    have hw : r2 = r1 := hw
    subst hw
    exact kt (hc.mp rfl) H1 locs hP hD hS
  | false =>
    have hw : r2 = r0 := hw
    subst hw
    exact kf (fun h => by have := hc.mpr h; cases this) H1 locs hP hD hS
theorem ct_csc {cond : Prop} {r1 r0 : Int32} (S : CallFix p m c cc nL s args wT own) (hM : Ct l dC dI tt y b n ret rm [] As [] H.size (fun A => ctQc dC dI [] cond r1 [] r0 [] A)) (gw : GoodIn wT (va_wsS own index y (.code y b n ret :: wT)))
    (hd : y.cls ≠ "java/lang/invoke/MethodHandle" ∧ y.cls ≠ "java/lang/invoke/VarHandle" ∧ (parseMethodDescriptor y.desc).map (fun d => d.parameters.length) = some As.length) (hR : rm.frames + 1 ≤ R.frames ∧ 8 + (n + 11) + rm.locals ≤ R.locals)
    (hP : va_P (dC, dI) cls ws H) (hD : va_D A ws) (hK : va_K (dC, dI) cls tys s) (hS : va_S A s.heap H locs) (hA : ∀ q : Nat, s.heap.size ≤ q → A q) (hT : sT tt A s s.heap) (isR : List Nat) (hRr : isR.map (fun i => ws[i]?) = wr.map some) (hnR : va_nd isR = true)
    (hsize : ls.size = nL) {st : List Value} (hst : st = As.reverse ++ rest) (hrest : (rest.map fun v => v.category).sum ≤ 8) (hdg : decode cc pc = .ok (.invokestatic index, 3)) (hf : cells + rm.cells ≤ R.cells ∧ slots + rm.slots ≤ R.slots)
    (kt : cond → ∀ (H1 : Heap) (locs1 : List Loc), va_P (dC, dI) cls wr H1 → va_D A wr → va_S A s.heap H1 locs1 → W p l e R s m args below meth c H1 locs1 (cells + rm.cells) (slots + rm.slots) Q (F0 m (pc + 3) ls (.int r1 :: rest)))
    (kf : ¬ cond → ∀ (H1 : Heap) (locs1 : List Loc), va_P (dC, dI) cls wr H1 → va_D A wr → va_S A s.heap H1 locs1 → W p l e R s m args below meth c H1 locs1 (cells + rm.cells) (slots + rm.slots) Q (F0 m (pc + 3) ls (.int r0 :: rest))) : W p l e R s m args below meth c H locs cells slots Q (F0 m pc ls st) := by
  have hFc := va_free (wc := []) hD hS hA [] rfl
  refine va_calli (va_runS (As := As) (rest := rest) S hM (va_cwS As.length S.2.2.2.2 gw rfl rfl rfl hd hR) ⟨ct_blind, fun U hU hW => ct_pre (isC := []) (tyi := []) hP hD hK hS hA hT rfl rfl rfl U hU hW⟩ rfl rfl hsize hst (lv_room hrest) hdg hf) hS (fun q _ h => hFc q h) hFc (fun r2 u t H1 locs ht hvm hw hB hz1 hk1 hS => ?_)
  obtain ⟨hP1, -, hD1⟩ := hB
  rw [ht] at hP1
  have hPn : va_P (dC, dI) cls [] H1 := fun k q h => by simp at h
  have hDn : va_D (va_A [] H.size) [] := ⟨fun i j p q h => by simp at h, fun k q h => by simp at h⟩
  obtain ⟨hP, hD⟩ := va_join (w1 := []) hP hD [] isR rfl hRr hnR (by simp) hk1 hFc hPn hDn
  rw [List.append_nil] at hP hD
  obtain ⟨hc, hw⟩ := hw
  cases u with
  | true =>
    have hw : r2 = r1 := hw
    subst hw
    exact kt (hc.mp rfl) H1 locs hP hD hS
  | false =>
    have hw : r2 = r0 := hw
    subst hw
    exact kf (fun h => by have := hc.mpr h; cases this) H1 locs hP hD hS
end CT3
set_option maxHeartbeats 4000000 in
set_option maxRecDepth 100000 in
/-- a second of heating -/
theorem cH_heated (l : Launch) (dC : Nat → ClassId) (dI : Nat → Nat → Nat) (tt : Nat → Nat) (sz : Nat) (h0 h1 h2 : Nat) (c1 c2 : ClassId) (hs : Nat → Int32) (ht : Nat → UInt64) (c0 k0 : Nat) (T : UInt64) (nw : Int32) (hc32 : c0 ≤ 32) (hk0 : k0 ≤ c0) (hok : fst hs nw c0 k0 < c0 → vf_n64 (FP.dsub (ht (fst hs nw c0 k0)) T) ∧ vf_n64 (FP.ddiv (FP.dsub (ht (fst hs nw c0 k0)) T) (FP.i2d (hs (fst hs nw c0 k0) - nw))) ∧ vf_n64 (FP.dadd T (FP.ddiv (FP.dsub (ht (fst hs nw c0 k0)) T) (FP.i2d (hs (fst hs nw c0 k0) - nw))))) : Ct l dC dI tt yH_heated bH_heated 4 (some .double) ({ frames := 0, cells := 0, slots := 0, locals := 0 }) (tH c1 c2) [.ref h0, .double T, .int nw] (wH h0 h1 h2 c1 c2 hs ht (nI c0) (nI k0)) sz (fun A => ctQd dC dI (tH c1 c2) (heatT hs ht c0 (fst hs nw c0 k0) nw T) (wH h0 h1 h2 c1 c2 hs ht (nI c0) (nI (fst hs nw c0 k0))) A) := by
  refine ct_of (by decide) (Nat.le_of_ble_eq_true rfl) ?_
  intro p e s m below meth c A ls hx hb hr hts hown hml hlocks hnm hA hS hP hK hD hT hl
  have hl : lv_has ls 4 [(0, .ref h0), (1, .double T), (3, .int nw)] := hl
  generalize hKe : fst hs nw c0 k0 = K at hok ⊢
  have key : ∀ (n k : Nat) (ls : Array Slot) (H : Heap) (locs : List Loc), n + k = c0 → fstN hs nw c0 n k = K → va_P (dC, dI) cls (wH h0 h1 h2 c1 c2 hs ht (nI c0) (nI k)) H → va_D A (wH h0 h1 h2 c1 c2 hs ht (nI c0) (nI k)) → va_S A s.heap H locs → lv_has ls 4 [(0, .ref h0), (1, .double T), (3, .int nw)] → W p l e ({ frames := 0, cells := 0, slots := 0, locals := 0 } : Room) s m ([.ref h0, .double T, .int nw] : List Value).toArray below meth c H locs 0 0 (MQ below (ctQd dC dI (tH c1 c2) (heatT hs ht c0 K nw T) (wH h0 h1 h2 c1 c2 hs ht (nI c0) (nI K)) A) ([.ref h0, .double T, .int nw] : List Value).toArray s 0 0 A) (F0 m 0 ls []) := by
    intro n
    induction n with
    | zero =>
      intro k ls H locs hn hm hP hD hS hl
      refine lv_aload_n hx hb dH_heated_0 rfl (lv_at hl 0 rfl) ?_
      refine va_get (D := (dC, dI)) (ci := 1) (v := .int (nI k)) (C := "MashEnzymes$Heating") (T := F_H) (N := 4) hx hb hts in_H hown hK hP 0 rfl rfl 3 (by decide) (hts _ tw_f_H_23) (fun _ h9 => h9) rfl dH_heated_1 ?_
      refine lv_aload_n hx hb dH_heated_4 rfl (lv_at hl 0 rfl) ?_
      refine va_get (D := (dC, dI)) (ci := 1) (v := .int (nI c0)) (C := "MashEnzymes$Heating") (T := F_H) (N := 4) hx hb hts in_H hown hK hP 0 rfl rfl 2 (by decide) (hts _ tw_f_H_19) (fun _ h9 => h9) rfl dH_heated_5 ?_
      refine lv_icmp_ge (tgt := 37) hx hb dH_heated_8 (by decide) (fun c_1 => ?_) (fun c_1 => ?_)
      · have hkK : k = K := hm
        subst hkK
        refine lv_aload_n hx hb dH_heated_37 rfl (lv_at hl 0 rfl) ?_
        refine va_get (D := (dC, dI)) (ci := 1) (v := .int (nI k)) (C := "MashEnzymes$Heating") (T := F_H) (N := 4) hx hb hts in_H hown hK hP 0 rfl rfl 3 (by decide) (hts _ tw_f_H_23) (fun _ h9 => h9) rfl dH_heated_38 ?_
        refine lv_aload_n hx hb dH_heated_41 rfl (lv_at hl 0 rfl) ?_
        refine va_get (D := (dC, dI)) (ci := 1) (v := .int (nI c0)) (C := "MashEnzymes$Heating") (T := F_H) (N := 4) hx hb hts in_H hown hK hP 0 rfl rfl 2 (by decide) (hts _ tw_f_H_19) (fun _ h9 => h9) rfl dH_heated_42 ?_
        refine lv_icmp_ge (tgt := 77) hx hb dH_heated_45 (by decide) (fun c_2 => ?_) (fun c_2 => ?_)
        · refine lv_dload_n hx hb dH_heated_77 rfl (lv_at hl 1 rfl) ?_
          exact ct_dret hx hb hr hlocks hP hK hD hS (by unfold heatT; rw [if_neg (by omega)]) dH_heated_78
        · exact absurd (nI_le (a := c0) (b := k) (by omega) (by omega)) c_2
      · exact absurd (nI_le (a := c0) (b := k) (by omega) (by omega)) c_1
    | succ n ih =>
      intro k ls H locs hn hm hP hD hS hl
      refine lv_aload_n hx hb dH_heated_0 rfl (lv_at hl 0 rfl) ?_
      refine va_get (D := (dC, dI)) (ci := 1) (v := .int (nI k)) (C := "MashEnzymes$Heating") (T := F_H) (N := 4) hx hb hts in_H hown hK hP 0 rfl rfl 3 (by decide) (hts _ tw_f_H_23) (fun _ h9 => h9) rfl dH_heated_1 ?_
      refine lv_aload_n hx hb dH_heated_4 rfl (lv_at hl 0 rfl) ?_
      refine va_get (D := (dC, dI)) (ci := 1) (v := .int (nI c0)) (C := "MashEnzymes$Heating") (T := F_H) (N := 4) hx hb hts in_H hown hK hP 0 rfl rfl 2 (by decide) (hts _ tw_f_H_19) (fun _ h9 => h9) rfl dH_heated_5 ?_
      refine lv_icmp_ge (tgt := 37) hx hb dH_heated_8 (by decide) (fun c_3 => ?_) (fun c_3 => ?_)
      · exact absurd ((nI_leI (a := c0) (b := k) (by omega) (by omega)).mp c_3) (by omega)
      · refine lv_aload_n hx hb dH_heated_11 rfl (lv_at hl 0 rfl) ?_
        refine va_get (D := (dC, dI)) (ci := 1) (v := .ref h1) (C := "MashEnzymes$Heating") (T := F_H) (N := 4) hx hb hts in_H hown hK hP 0 rfl rfl 0 (by decide) (hts _ tw_f_H_9) (fun _ h9 => h9) rfl dH_heated_12 ?_
        refine lv_aload_n hx hb dH_heated_15 rfl (lv_at hl 0 rfl) ?_
        refine va_get (D := (dC, dI)) (ci := 1) (v := .int (nI k)) (C := "MashEnzymes$Heating") (T := F_H) (N := 4) hx hb hts in_H hown hK hP 0 rfl rfl 3 (by decide) (hts _ tw_f_H_23) (fun _ h9 => h9) rfl dH_heated_16 ?_
        refine ct_iald (k := k) (v := hs k) hx hb hK hP 1 0 rfl rfl (vp_in_nI (by omega) (by decide)) (nI_clamp (by omega)) (rfl) dH_heated_19 ?_
        refine lv_iload_n hx hb dH_heated_20 rfl (lv_at hl 2 rfl) ?_
        refine lv_icmp_gt (tgt := 37) hx hb dH_heated_21 (by decide) (fun c_4 => ?_) (fun c_4 => ?_)
        · have hmK : k = K := by unfold fstN at hm; rw [if_neg (fun h => absurd h.2 (Int32.not_le.mpr c_4))] at hm; exact hm
          have hkc : k < c0 := by omega
          have hkK : k = K := hmK
          subst hkK
          refine lv_aload_n hx hb dH_heated_37 rfl (lv_at hl 0 rfl) ?_
          refine va_get (D := (dC, dI)) (ci := 1) (v := .int (nI k)) (C := "MashEnzymes$Heating") (T := F_H) (N := 4) hx hb hts in_H hown hK hP 0 rfl rfl 3 (by decide) (hts _ tw_f_H_23) (fun _ h9 => h9) rfl dH_heated_38 ?_
          refine lv_aload_n hx hb dH_heated_41 rfl (lv_at hl 0 rfl) ?_
          refine va_get (D := (dC, dI)) (ci := 1) (v := .int (nI c0)) (C := "MashEnzymes$Heating") (T := F_H) (N := 4) hx hb hts in_H hown hK hP 0 rfl rfl 2 (by decide) (hts _ tw_f_H_19) (fun _ h9 => h9) rfl dH_heated_42 ?_
          refine lv_icmp_ge (tgt := 77) hx hb dH_heated_45 (by decide) (fun c_5 => ?_) (fun c_5 => ?_)
          · exact absurd ((nI_leI (a := c0) (b := k) (by omega) (by omega)).mp c_5) (by omega)
          · refine lv_dload_n hx hb dH_heated_48 rfl (lv_at hl 1 rfl) ?_
            refine lv_aload_n hx hb dH_heated_49 rfl (lv_at hl 0 rfl) ?_
            refine va_get (D := (dC, dI)) (ci := 1) (v := .ref h2) (C := "MashEnzymes$Heating") (T := F_H) (N := 4) hx hb hts in_H hown hK hP 0 rfl rfl 1 (by decide) (hts _ tw_f_H_15) (fun _ h9 => h9) rfl dH_heated_50 ?_
            refine lv_aload_n hx hb dH_heated_53 rfl (lv_at hl 0 rfl) ?_
            refine va_get (D := (dC, dI)) (ci := 1) (v := .int (nI k)) (C := "MashEnzymes$Heating") (T := F_H) (N := 4) hx hb hts in_H hown hK hP 0 rfl rfl 3 (by decide) (hts _ tw_f_H_23) (fun _ h9 => h9) rfl dH_heated_54 ?_
            refine ct_dald (k := k) (v := ht k) hx hb hK hP 2 1 rfl rfl (vp_in_nI (by omega) (by decide)) (nI_clamp (by omega)) (rfl) dH_heated_57 ?_
            refine lv_dload_n hx hb dH_heated_58 rfl (lv_at hl 1 rfl) ?_
            refine lv_dsub hx hb dH_heated_59 ((hok hkc).1) ?_
            refine lv_aload_n hx hb dH_heated_60 rfl (lv_at hl 0 rfl) ?_
            refine va_get (D := (dC, dI)) (ci := 1) (v := .ref h1) (C := "MashEnzymes$Heating") (T := F_H) (N := 4) hx hb hts in_H hown hK hP 0 rfl rfl 0 (by decide) (hts _ tw_f_H_9) (fun _ h9 => h9) rfl dH_heated_61 ?_
            refine lv_aload_n hx hb dH_heated_64 rfl (lv_at hl 0 rfl) ?_
            refine va_get (D := (dC, dI)) (ci := 1) (v := .int (nI k)) (C := "MashEnzymes$Heating") (T := F_H) (N := 4) hx hb hts in_H hown hK hP 0 rfl rfl 3 (by decide) (hts _ tw_f_H_23) (fun _ h9 => h9) rfl dH_heated_65 ?_
            refine ct_iald (k := k) (v := hs k) hx hb hK hP 1 0 rfl rfl (vp_in_nI (by omega) (by decide)) (nI_clamp (by omega)) (rfl) dH_heated_68 ?_
            refine lv_iload_n hx hb dH_heated_69 rfl (lv_at hl 2 rfl) ?_
            refine lv_isub hx hb dH_heated_70 ?_
            refine lv_i2d hx hb dH_heated_71 ?_
            refine lv_ddiv hx hb dH_heated_72 ((hok hkc).2.1) ?_
            refine lv_dadd hx hb dH_heated_73 ((hok hkc).2.2) ?_
            refine lv_goto (tgt := 78) hx hb dH_heated_74 (by decide) ?_
            exact ct_dret hx hb hr hlocks hP hK hD hS (by unfold heatT; rw [if_pos hkc]) dH_heated_78
        · have hle : hs k ≤ nw := Int32.not_lt.mp c_4
          have hkc : k < c0 := by omega
          unfold fstN at hm
          rw [if_pos ⟨hkc, hle⟩] at hm
          refine lv_aload_n hx hb dH_heated_24 rfl (lv_at hl 0 rfl) ?_
          refine lv_aload_n hx hb dH_heated_25 rfl (lv_at hl 0 rfl) ?_
          refine va_get (D := (dC, dI)) (ci := 1) (v := .int (nI k)) (C := "MashEnzymes$Heating") (T := F_H) (N := 4) hx hb hts in_H hown hK hP 0 rfl rfl 3 (by decide) (hts _ tw_f_H_23) (fun _ h9 => h9) rfl dH_heated_26 ?_
          refine lv_iconst (v := 1) hx hb dH_heated_29 (by decide) ?_
          refine lv_iadd hx hb dH_heated_30 ?_
          refine ct_topi (y := nI (k + 1)) (nI_1 k) ?_
          refine va_put (D := (dC, dI)) (ci := 1) (v := .int (nI (k + 1))) (ty := .int) (C := "MashEnzymes$Heating") (T := F_H) (N := 4) hx hb hts in_H t_H t_H_ok n_H hown hK hP hD hS 0 rfl rfl 3 (by decide) (hts _ tw_f_H_23) (fun _ h9 => h9) rfl (by decide +kernel) rfl rfl (Nat.le_of_ble_eq_true rfl) dH_heated_31 (fun H locs hP hD hS => ?_)
          have hP : va_P (dC, dI) cls (wH h0 h1 h2 c1 c2 hs ht (nI c0) (nI (k + 1))) H := hP
          have hD : va_D A (wH h0 h1 h2 c1 c2 hs ht (nI c0) (nI (k + 1))) := hD
          refine lv_goto (tgt := 0) hx hb dH_heated_34 (by decide) ?_
          exact ih (k + 1) ls H locs (by omega) hm hP hD hS (lv_sub hl [0, 1, 2] rfl)
  exact key (c0 - k0) k0 ls _ _ (by omega) hKe hP hD hS hl

/-- a step is taken -/
def apOK (hs : Nat → Int32) (c0 : Nat) (sec : Int32) : Prop := c0 < 32 ∧ (0 < c0 → hs (c0 - 1) < sec)
set_option maxHeartbeats 4000000 in
set_option maxRecDepth 100000 in
/-- a step is told -/
theorem cH_append (l : Launch) (dC : Nat → ClassId) (dI : Nat → Nat → Nat) (tt : Nat → Nat) (sz : Nat) (h0 h1 h2 : Nat) (c1 c2 : ClassId) (hs : Nat → Int32) (ht : Nat → UInt64) (c0 : Nat) (hn sec : Int32) (tg : UInt64) (hc32 : c0 ≤ 32) : Ct l dC dI tt yH_append bH_append 4 (some .boolean) ({ frames := 0, cells := 0, slots := 0, locals := 0 }) (tH c1 c2) [.ref h0, .int sec, .double tg] (wH h0 h1 h2 c1 c2 hs ht (nI c0) hn) sz (fun A => ctQc dC dI (tH c1 c2) (apOK hs c0 sec) 1 (wH h0 h1 h2 c1 c2 (upd hs c0 sec) (vf_upd ht c0 tg) (nI (c0 + 1)) hn) 0 (wH h0 h1 h2 c1 c2 hs ht (nI c0) hn) A) := by
  refine ct_of (by decide) (Nat.le_of_ble_eq_true rfl) ?_
  intro p e s m below meth c A ls hx hb hr hts hown hml hlocks hnm hA hS hP hK hD hT hl
  have hl : lv_has ls 4 [(0, .ref h0), (1, .int sec), (2, .double tg)] := hl
  refine lv_aload_n hx hb dH_append_0 rfl (lv_at hl 0 rfl) ?_
  refine va_get (D := (dC, dI)) (ci := 1) (v := .int (nI c0)) (C := "MashEnzymes$Heating") (T := F_H) (N := 4) hx hb hts in_H hown hK hP 0 rfl rfl 2 (by decide) (hts _ tw_f_H_19) (fun _ h9 => h9) rfl dH_append_1 ?_
  refine lv_bipush (v := 32) hx hb dH_append_4 (by decide) ?_
  refine lv_icmp_ge (tgt := 31) hx hb dH_append_6 (by decide) (fun c_1 => ?_) (fun c_1 => ?_)
  · refine lv_iconst (v := 0) hx hb dH_append_31 (by decide) ?_
    exact ct_ret0 hx hb hr rfl hlocks hP hK hD hS (fun h => absurd ((nI_leI (a := 32) (b := c0) (by decide) (by omega)).mp c_1) (by have := h.1; omega)) rfl dH_append_32
  · have hc9 : c0 < 32 := Nat.lt_of_not_le fun h => c_1 (nI_le (a := 32) (b := c0) h (by omega))
    refine lv_aload_n hx hb dH_append_9 rfl (lv_at hl 0 rfl) ?_
    refine va_get (D := (dC, dI)) (ci := 1) (v := .int (nI c0)) (C := "MashEnzymes$Heating") (T := F_H) (N := 4) hx hb hts in_H hown hK hP 0 rfl rfl 2 (by decide) (hts _ tw_f_H_19) (fun _ h9 => h9) rfl dH_append_10 ?_
    refine lv_if_le (tgt := 33) hx hb dH_append_13 (by decide) (fun c_2 => ?_) (fun c_2 => ?_)
    · have hap : apOK hs c0 sec := ⟨hc9, fun h => absurd ((nI_leI (a := c0) (b := 0) (by omega) (by decide)).mp c_2) (by omega)⟩
      refine lv_aload_n hx hb dH_append_33 rfl (lv_at hl 0 rfl) ?_
      refine va_get (D := (dC, dI)) (ci := 1) (v := .ref h1) (C := "MashEnzymes$Heating") (T := F_H) (N := 4) hx hb hts in_H hown hK hP 0 rfl rfl 0 (by decide) (hts _ tw_f_H_9) (fun _ h9 => h9) rfl dH_append_34 ?_
      refine lv_aload_n hx hb dH_append_37 rfl (lv_at hl 0 rfl) ?_
      refine va_get (D := (dC, dI)) (ci := 1) (v := .int (nI c0)) (C := "MashEnzymes$Heating") (T := F_H) (N := 4) hx hb hts in_H hown hK hP 0 rfl rfl 2 (by decide) (hts _ tw_f_H_19) (fun _ h9 => h9) rfl dH_append_38 ?_
      refine lv_iload_n hx hb dH_append_41 rfl (lv_at hl 1 rfl) ?_
      refine ct_iast (k := c0) (w1 := (wH h0 h1 h2 c1 c2 (upd hs c0 sec) ht (nI c0) hn)) hx hb hK hP hD hS 1 0 rfl rfl (vp_in_nI hap.1 (by decide)) (nI_clamp (by omega)) (rfl) dH_append_42 (fun H locs hP hD hS => ?_)
      refine lv_aload_n hx hb dH_append_43 rfl (lv_at hl 0 rfl) ?_
      refine va_get (D := (dC, dI)) (ci := 1) (v := .ref h2) (C := "MashEnzymes$Heating") (T := F_H) (N := 4) hx hb hts in_H hown hK hP 0 rfl rfl 1 (by decide) (hts _ tw_f_H_15) (fun _ h9 => h9) rfl dH_append_44 ?_
      refine lv_aload_n hx hb dH_append_47 rfl (lv_at hl 0 rfl) ?_
      refine va_get (D := (dC, dI)) (ci := 1) (v := .int (nI c0)) (C := "MashEnzymes$Heating") (T := F_H) (N := 4) hx hb hts in_H hown hK hP 0 rfl rfl 2 (by decide) (hts _ tw_f_H_19) (fun _ h9 => h9) rfl dH_append_48 ?_
      refine lv_dload_n hx hb dH_append_51 rfl (lv_at hl 2 rfl) ?_
      refine ct_dast (k := c0) (w1 := (wH h0 h1 h2 c1 c2 (upd hs c0 sec) (vf_upd ht c0 tg) (nI c0) hn)) hx hb hK hP hD hS 2 1 rfl rfl (vp_in_nI hap.1 (by decide)) (nI_clamp (by omega)) (rfl) dH_append_52 (fun H locs hP hD hS => ?_)
      refine lv_aload_n hx hb dH_append_53 rfl (lv_at hl 0 rfl) ?_
      refine lv_aload_n hx hb dH_append_54 rfl (lv_at hl 0 rfl) ?_
      refine va_get (D := (dC, dI)) (ci := 1) (v := .int (nI c0)) (C := "MashEnzymes$Heating") (T := F_H) (N := 4) hx hb hts in_H hown hK hP 0 rfl rfl 2 (by decide) (hts _ tw_f_H_19) (fun _ h9 => h9) rfl dH_append_55 ?_
      refine lv_iconst (v := 1) hx hb dH_append_58 (by decide) ?_
      refine lv_iadd hx hb dH_append_59 ?_
      refine ct_topi (y := nI (c0 + 1)) (nI_1 c0) ?_
      refine va_put (D := (dC, dI)) (ci := 1) (v := .int (nI (c0 + 1))) (ty := .int) (C := "MashEnzymes$Heating") (T := F_H) (N := 4) hx hb hts in_H t_H t_H_ok n_H hown hK hP hD hS 0 rfl rfl 2 (by decide) (hts _ tw_f_H_19) (fun _ h9 => h9) rfl (by decide +kernel) rfl rfl (Nat.le_of_ble_eq_true rfl) dH_append_60 (fun H locs hP hD hS => ?_)
      have hP : va_P (dC, dI) cls (wH h0 h1 h2 c1 c2 (upd hs c0 sec) (vf_upd ht c0 tg) (nI (c0 + 1)) hn) H := hP
      have hD : va_D A (wH h0 h1 h2 c1 c2 (upd hs c0 sec) (vf_upd ht c0 tg) (nI (c0 + 1)) hn) := hD
      refine lv_iconst (v := 1) hx hb dH_append_63 (by decide) ?_
      exact ct_ret1 hx hb hr rfl hlocks hP hK hD hS hap rfl dH_append_64
    · have hc0 : 0 < c0 := Nat.pos_of_ne_zero fun h => c_2 (by rw [h]; decide)
      refine lv_iload_n hx hb dH_append_16 rfl (lv_at hl 1 rfl) ?_
      refine lv_aload_n hx hb dH_append_17 rfl (lv_at hl 0 rfl) ?_
      refine va_get (D := (dC, dI)) (ci := 1) (v := .ref h1) (C := "MashEnzymes$Heating") (T := F_H) (N := 4) hx hb hts in_H hown hK hP 0 rfl rfl 0 (by decide) (hts _ tw_f_H_9) (fun _ h9 => h9) rfl dH_append_18 ?_
      refine lv_aload_n hx hb dH_append_21 rfl (lv_at hl 0 rfl) ?_
      refine va_get (D := (dC, dI)) (ci := 1) (v := .int (nI c0)) (C := "MashEnzymes$Heating") (T := F_H) (N := 4) hx hb hts in_H hown hK hP 0 rfl rfl 2 (by decide) (hts _ tw_f_H_19) (fun _ h9 => h9) rfl dH_append_22 ?_
      refine lv_iconst (v := 1) hx hb dH_append_25 (by decide) ?_
      refine lv_isub hx hb dH_append_26 ?_
      refine ct_topi (y := nI (c0 - 1)) (pk_sub hc0) ?_
      refine ct_iald (k := (c0 - 1)) (v := hs (c0 - 1)) hx hb hK hP 1 0 rfl rfl (vp_in_nI (by omega) (by decide)) (nI_clamp (by omega)) (rfl) dH_append_27 ?_
      refine lv_icmp_gt (tgt := 33) hx hb dH_append_28 (by decide) (fun c_3 => ?_) (fun c_3 => ?_)
      · have hap : apOK hs c0 sec := ⟨hc9, fun _ => c_3⟩
        refine lv_aload_n hx hb dH_append_33 rfl (lv_at hl 0 rfl) ?_
        refine va_get (D := (dC, dI)) (ci := 1) (v := .ref h1) (C := "MashEnzymes$Heating") (T := F_H) (N := 4) hx hb hts in_H hown hK hP 0 rfl rfl 0 (by decide) (hts _ tw_f_H_9) (fun _ h9 => h9) rfl dH_append_34 ?_
        refine lv_aload_n hx hb dH_append_37 rfl (lv_at hl 0 rfl) ?_
        refine va_get (D := (dC, dI)) (ci := 1) (v := .int (nI c0)) (C := "MashEnzymes$Heating") (T := F_H) (N := 4) hx hb hts in_H hown hK hP 0 rfl rfl 2 (by decide) (hts _ tw_f_H_19) (fun _ h9 => h9) rfl dH_append_38 ?_
        refine lv_iload_n hx hb dH_append_41 rfl (lv_at hl 1 rfl) ?_
        refine ct_iast (k := c0) (w1 := (wH h0 h1 h2 c1 c2 (upd hs c0 sec) ht (nI c0) hn)) hx hb hK hP hD hS 1 0 rfl rfl (vp_in_nI hap.1 (by decide)) (nI_clamp (by omega)) (rfl) dH_append_42 (fun H locs hP hD hS => ?_)
        refine lv_aload_n hx hb dH_append_43 rfl (lv_at hl 0 rfl) ?_
        refine va_get (D := (dC, dI)) (ci := 1) (v := .ref h2) (C := "MashEnzymes$Heating") (T := F_H) (N := 4) hx hb hts in_H hown hK hP 0 rfl rfl 1 (by decide) (hts _ tw_f_H_15) (fun _ h9 => h9) rfl dH_append_44 ?_
        refine lv_aload_n hx hb dH_append_47 rfl (lv_at hl 0 rfl) ?_
        refine va_get (D := (dC, dI)) (ci := 1) (v := .int (nI c0)) (C := "MashEnzymes$Heating") (T := F_H) (N := 4) hx hb hts in_H hown hK hP 0 rfl rfl 2 (by decide) (hts _ tw_f_H_19) (fun _ h9 => h9) rfl dH_append_48 ?_
        refine lv_dload_n hx hb dH_append_51 rfl (lv_at hl 2 rfl) ?_
        refine ct_dast (k := c0) (w1 := (wH h0 h1 h2 c1 c2 (upd hs c0 sec) (vf_upd ht c0 tg) (nI c0) hn)) hx hb hK hP hD hS 2 1 rfl rfl (vp_in_nI hap.1 (by decide)) (nI_clamp (by omega)) (rfl) dH_append_52 (fun H locs hP hD hS => ?_)
        refine lv_aload_n hx hb dH_append_53 rfl (lv_at hl 0 rfl) ?_
        refine lv_aload_n hx hb dH_append_54 rfl (lv_at hl 0 rfl) ?_
        refine va_get (D := (dC, dI)) (ci := 1) (v := .int (nI c0)) (C := "MashEnzymes$Heating") (T := F_H) (N := 4) hx hb hts in_H hown hK hP 0 rfl rfl 2 (by decide) (hts _ tw_f_H_19) (fun _ h9 => h9) rfl dH_append_55 ?_
        refine lv_iconst (v := 1) hx hb dH_append_58 (by decide) ?_
        refine lv_iadd hx hb dH_append_59 ?_
        refine ct_topi (y := nI (c0 + 1)) (nI_1 c0) ?_
        refine va_put (D := (dC, dI)) (ci := 1) (v := .int (nI (c0 + 1))) (ty := .int) (C := "MashEnzymes$Heating") (T := F_H) (N := 4) hx hb hts in_H t_H t_H_ok n_H hown hK hP hD hS 0 rfl rfl 2 (by decide) (hts _ tw_f_H_19) (fun _ h9 => h9) rfl (by decide +kernel) rfl rfl (Nat.le_of_ble_eq_true rfl) dH_append_60 (fun H locs hP hD hS => ?_)
        have hP : va_P (dC, dI) cls (wH h0 h1 h2 c1 c2 (upd hs c0 sec) (vf_upd ht c0 tg) (nI (c0 + 1)) hn) H := hP
        have hD : va_D A (wH h0 h1 h2 c1 c2 (upd hs c0 sec) (vf_upd ht c0 tg) (nI (c0 + 1)) hn) := hD
        refine lv_iconst (v := 1) hx hb dH_append_63 (by decide) ?_
        exact ct_ret1 hx hb hr rfl hlocks hP hK hD hS hap rfl dH_append_64
      · refine lv_iconst (v := 0) hx hb dH_append_31 (by decide) ?_
        exact ct_ret0 hx hb hr rfl hlocks hP hK hD hS (fun h => c_3 (h.2 hc0)) rfl dH_append_32

