theorem cvn_g {o : Option Ordering} (h : o ≠ none) : 0 < Op.cmpValue o .g ↔ o = some .gt := by
  rw [cv_g_gt]
  exact ⟨fun h1 => h1.elim id (fun h2 => absurd h2 h), Or.inl⟩
theorem cvn_l {o : Option Ordering} (h : o ≠ none) : Op.cmpValue o .l < 0 ↔ o = some .lt := by
  rw [cv_l_lt]
  exact ⟨fun h1 => h1.elim id (fun h2 => absurd h2 h), Or.inl⟩
/-- what kinds answer -/
def kdV (a : Nat → UInt64) (b n : Nat) (kind : Int32) : UInt64 := if 0 ≤ kind ∧ kind < nI n then a (b + kind.toNatClampNeg) else 13830554455654793216
/-- the wishes that are granted -/
def grOK (kg st : UInt64) (kind : Int32) : Prop := FP.dcmp kg 0 = some .gt ∧ ¬ FP.dcmp kg 4652007308841189376 = some .gt ∧ ¬ FP.dcmp st 0 = some .lt ∧ ¬ FP.dcmp st 4607182418800017408 = some .gt ∧ 0 ≤ kind ∧ kind < 3
def lqOK (li d ac : UInt64) : Prop := FP.dcmp li 0 = some .gt ∧ ¬ FP.dcmp li 4666723172467343360 = some .gt ∧ tpOK d ∧ ¬ FP.dcmp ac 4613937818241073152 = some .lt ∧ ¬ FP.dcmp ac 4620693217682128896 = some .gt
def ezOK (kind : Int32) (am : UInt64) : Prop := FP.dcmp am 0 = some .gt ∧ ¬ FP.dcmp am 4652007308841189376 = some .gt ∧ 0 ≤ kind ∧ kind < 4
def stOK (hs : Nat → Int32) (c0 : Nat) (nw sec : Int32) (d : UInt64) : Prop := nw < sec ∧ sec ≤ 1000000 ∧ tpOK d ∧ apOK hs c0 sec
def tkS (sh : UInt64) (gt lt : Int32) : Prop := FP.dcmp sh 0 = some .gt ∧ FP.dcmp sh 4607182418800017408 = some .lt ∧ ¬ (gt = 0 ∨ lt = 0)
def bkOK (ib : Nat → Int32) (dc dec : Int32) (d : UInt64) : Prop := 0 ≤ dec ∧ dec < dc ∧ ib dec.toNatClampNeg = 0 ∧ tpOK d
/-- not known to be no number -/
def nNo (x : UInt64) : Prop := ∀ y, y = 0 ∨ y = 4652007308841189376 ∨ y = 4666723172467343360 ∨ y = 4636737291354636288 ∨ y = 4613937818241073152 ∨ y = 4620693217682128896 ∨ y = 4607182418800017408 → FP.dcmp x y ≠ none
/-- grain: shares of protein and of enzymes, by the kind -/
def gpD (k : Nat) : UInt64 := FP.ddiv (FP.i2d (nI (tb_GP k))) 4625196817309499392
def geD (k e : Nat) : UInt64 := FP.ddiv (FP.i2d (nI (tb_GE (k * 4 + e)))) 4620693217682128896
theorem gp_P : ∀ k, k < 3 → ft_isP (gpD k) = true := by decide +kernel
theorem ge_P : ∀ k, k < 3 → ∀ e, e < 4 → ft_isP (geD k e) = true := by decide +kernel
def gr2 (kg st : UInt64) (k : Nat) (a : Nat → UInt64) : Nat → UInt64 := vf_upd (vf_upd a 1 (FP.dadd (a 1) (FP.dmul kg st))) 8 (FP.dadd (a 8) (FP.dmul kg (gpD k)))
def grE (kg : UInt64) (k i : Nat) (a : Nat → UInt64) : Nat → UInt64 := fun m => if 9 ≤ m ∧ m < 9 + i then FP.dadd (a m) (FP.dmul kg (geD k (m - 9))) else a m
def grA (kg st : UInt64) (k : Nat) (a : Nat → UInt64) : Nat → UInt64 := grE kg k 4 (gr2 kg st k a)
theorem grE_0 (kg : UInt64) (k : Nat) (a : Nat → UInt64) : grE kg k 0 a = a := funext fun m => if_neg (by omega)
theorem grE_s (kg : UInt64) (k i : Nat) (a : Nat → UInt64) : vf_upd (grE kg k i a) (9 + i) (FP.dadd (a (9 + i)) (FP.dmul kg (geD k i))) = grE kg k (i + 1) a := funext fun m => by
  unfold vf_upd grE
  by_cases h : m = 9 + i
  · subst h
    rw [if_pos rfl, if_pos (by omega), show 9 + i - 9 = i by omega]
  · rw [if_neg h]
    by_cases h2 : 9 ≤ m ∧ m < 9 + i
    · rw [if_pos h2, if_pos (by omega)]
    · rw [if_neg h2, if_neg (by omega)]
theorem grE_at (kg : UInt64) (k i : Nat) (a : Nat → UInt64) : grE kg k i a (9 + i) = a (9 + i) := if_neg (by omega)
def okG (kg st : UInt64) (k : Nat) (a : Nat → UInt64) (ts : UInt64) : Prop := vf_n64 (FP.dmul kg st) ∧ vf_n64 (FP.dadd (a 1) (FP.dmul kg st)) ∧ vf_n64 (FP.dadd ts (FP.dmul kg st)) ∧ vf_n64 (FP.dmul kg (gpD k)) ∧ vf_n64 (FP.dadd (a 8) (FP.dmul kg (gpD k))) ∧ ∀ i, i < 4 → vf_n64 (FP.dmul kg (geD k i)) ∧ vf_n64 (FP.dadd (a (9 + i)) (FP.dmul kg (geD k i)))
/-- a decoction is parted, and joined -/
def tkD (a : Nat → UInt64) (sh : UInt64) (i : Nat) (r : Nat → UInt64) : Nat → UInt64 := fun m => if m < i then FP.dmul (a m) sh else r m
def tkA (a : Nat → UInt64) (sh : UInt64) (i : Nat) : Nat → UInt64 := fun m => if m < i then FP.dsub (a m) (FP.dmul (a m) sh) else a m
def bkA (a r : Nat → UInt64) (i : Nat) : Nat → UInt64 := fun m => if m < i then FP.dadd (a m) (r m) else a m
theorem fi_s {f g : Nat → UInt64} (i : Nat) : vf_upd (fun m => if m < i then f m else g m) i (f i) = fun m => if m < i + 1 then f m else g m := funext fun m => by
  unfold vf_upd
  by_cases h : m = i
  · subst h; simp
  · by_cases h2 : m < i
    · simp [h, h2, Nat.lt_succ_of_lt h2]
    · simp [h, h2, show ¬ m < i + 1 by omega]
theorem tkD_s (a : Nat → UInt64) (sh : UInt64) (i : Nat) (r : Nat → UInt64) : vf_upd (tkD a sh i r) i (FP.dmul (a i) sh) = tkD a sh (i + 1) r := fi_s (f := fun m => FP.dmul (a m) sh) i
theorem tkA_s (a : Nat → UInt64) (sh : UInt64) (i : Nat) : vf_upd (tkA a sh i) i (FP.dsub (a i) (FP.dmul (a i) sh)) = tkA a sh (i + 1) := fi_s (f := fun m => FP.dsub (a m) (FP.dmul (a m) sh)) i
theorem bkA_s (a r : Nat → UInt64) (i : Nat) : vf_upd (bkA a r i) i (FP.dadd (a i) (r i)) = bkA a r (i + 1) := fi_s (f := fun m => FP.dadd (a m) (r m)) i
theorem tkA_at (a : Nat → UInt64) (sh : UInt64) (i : Nat) : tkA a sh i i = a i := if_neg (Nat.lt_irrefl i)
theorem bkA_at (a r : Nat → UInt64) (i : Nat) : bkA a r i i = a i := if_neg (Nat.lt_irrefl i)
theorem tkD_at (a : Nat → UInt64) (sh : UInt64) (i : Nat) (r : Nat → UInt64) : tkD a sh (i + 1) r i = FP.dmul (a i) sh := if_pos (Nat.lt_succ_self i)
theorem tkD_0 (a : Nat → UInt64) (sh : UInt64) (r : Nat → UInt64) : tkD a sh 0 r = r := funext fun m => if_neg (Nat.not_lt_zero m)
theorem tkA_0 (a : Nat → UInt64) (sh : UInt64) : tkA a sh 0 = a := funext fun m => if_neg (Nat.not_lt_zero m)
theorem bkA_0 (a r : Nat → UInt64) : bkA a r 0 = a := funext fun m => if_neg (Nat.not_lt_zero m)
theorem va_up_id {α : Type} (f : Nat → α) (k : Nat) : va_up f k (f k) = f := funext fun m => by
  unfold va_up
  split
  · rename_i h; rw [h]
  · rfl
section WM
variable {ad : Nat → Nat} {cA : Nat → ClassId} {a : Nat → UInt64} {dv : Nat → Nat → UInt64} {ib : Nat → Int32} {ac : Nat → UInt64} {hs : Nat → Int32} {ht : Nat → UInt64} {hc hn : Int32} {rv : Nat → UInt64} {ra : UInt64} {dc nw : Int32} {Tm Ac ts : UInt64} {gt lt : Int32}
theorem wM_dec {k : Nat} (hk : k < 8) : (wM ad cA a dv ib ac hs ht hc hn rv ra dc nw Tm Ac ts gt lt)[10 + k]? = some (ad (k + 10), .inl (cA 7, 13, .inr (.inr (.inr (.inl (dv k)))))) := by
  rcases (show k = 0 ∨ k = 1 ∨ k = 2 ∨ k = 3 ∨ k = 4 ∨ k = 5 ∨ k = 6 ∨ k = 7 by omega) with rfl | rfl | rfl | rfl | rfl | rfl | rfl | rfl <;> rfl
theorem wM_set {k : Nat} (hk : k < 8) (r : Nat → UInt64) : (wM ad cA a dv ib ac hs ht hc hn rv ra dc nw Tm Ac ts gt lt).set (10 + k) (ad (k + 10), .inl (cA 7, 13, .inr (.inr (.inr (.inl r))))) = wM ad cA a (va_up dv k r) ib ac hs ht hc hn rv ra dc nw Tm Ac ts gt lt := by
  rcases (show k = 0 ∨ k = 1 ∨ k = 2 ∨ k = 3 ∨ k = 4 ∨ k = 5 ∨ k = 6 ∨ k = 7 by omega) with rfl | rfl | rfl | rfl | rfl | rfl | rfl | rfl <;> rfl
end WM
set_option maxHeartbeats 4000000 in
set_option maxRecDepth 100000 in
/-- sugar -/
theorem cM_sugar (l : Launch) (dC : Nat → ClassId) (dI : Nat → Nat → Nat) (tt : Nat → Nat) (sz : Nat) (ad : Nat → Nat) (cA : Nat → ClassId) (a : Nat → UInt64) (dv : Nat → Nat → UInt64) (ib : Nat → Int32) (ac : Nat → UInt64) (hs : Nat → Int32) (ht : Nat → UInt64) (hc hn : Int32) (rv : Nat → UInt64) (ra : UInt64) (dc nw : Int32) (Tm Ac ts : UInt64) (gt lt : Int32) (kind : Int32) : Ct l dC dI tt yM_sugar bM_sugar 2 (some .double) ({ frames := 0, cells := 0, slots := 0, locals := 0 }) (tM cA) [.ref (ad 0), .int kind] (wM ad cA a dv ib ac hs ht hc hn rv ra dc nw Tm Ac ts gt lt) sz (fun A => ctQd dC dI (tM cA) (kdV a 3 5 kind) (wM ad cA a dv ib ac hs ht hc hn rv ra dc nw Tm Ac ts gt lt) A) := by
  refine ct_of (by decide) (Nat.le_of_ble_eq_true rfl) ?_
  intro p e s m below meth c A ls hx hb hr hts hown hml hlocks hnm hA hS hP hK hD hT hl
  have hl : lv_has ls 2 [(0, .ref (ad 0)), (1, .int kind)] := hl
  refine lv_iload_n hx hb dM_sugar_0 rfl (lv_at hl 1 rfl) ?_
  refine lv_if_lt (tgt := 20) hx hb dM_sugar_1 (by decide) (fun c_1 => ?_) (fun c_1 => ?_)
  · refine lv_ldc2d hx hb hown (hts _ tw_d_M_98) dM_sugar_20 ?_
    exact ct_dret hx hb hr hlocks hP hK hD hS (by unfold kdV; rw [if_neg (fun h => Int32.not_lt.mpr h.1 c_1)]) dM_sugar_23
  · refine lv_iload_n hx hb dM_sugar_4 rfl (lv_at hl 1 rfl) ?_
    refine lv_iconst (v := 5) hx hb dM_sugar_5 (by decide) ?_
    refine lv_icmp_ge (tgt := 20) hx hb dM_sugar_6 (by decide) (fun c_2 => ?_) (fun c_2 => ?_)
    · refine lv_ldc2d hx hb hown (hts _ tw_d_M_98) dM_sugar_20 ?_
      exact ct_dret hx hb hr hlocks hP hK hD hS (by unfold kdV; rw [if_neg (fun h => Int32.not_lt.mpr c_2 h.2)]) dM_sugar_23
    · obtain ⟨k, hk, rfl⟩ := nI_of (x := kind) c_1
      have hk5 : k < 5 := Nat.lt_of_not_le fun h => c_2 (nI_le h hk)
      refine lv_aload_n hx hb dM_sugar_9 rfl (lv_at hl 0 rfl) ?_
      refine va_get (D := (dC, dI)) (ci := 0) (v := .ref (ad 1)) (C := "MashEnzymes") (T := F_M) (N := 13) hx hb hts in_M hown hK hP 0 rfl rfl 0 (by decide) (hts _ tw_f_M_9) (fun _ h9 => h9) rfl dM_sugar_10 ?_
      refine lv_iconst (v := 3) hx hb dM_sugar_13 (by decide) ?_
      refine lv_iload_n hx hb dM_sugar_14 rfl (lv_at hl 1 rfl) ?_
      refine lv_iadd hx hb dM_sugar_15 ?_
      refine ct_topi (y := nI (3 + k)) (by rw [show (3 : Int32) = nI 3 from rfl, nI_add]) ?_
      refine ct_dald (k := (3 + k)) (v := a (3 + k)) hx hb hK hP 1 0 rfl rfl (vp_in_nI (by omega) (by decide)) (nI_clamp (by omega)) (rfl) dM_sugar_16 ?_
      refine lv_goto (tgt := 23) hx hb dM_sugar_17 (by decide) ?_
      exact ct_dret hx hb hr hlocks hP hK hD hS (by unfold kdV; rw [if_pos ⟨nI_pos' hk, nI_lt hk5 (by decide)⟩, nI_clamp hk]) dM_sugar_23

set_option maxHeartbeats 4000000 in
set_option maxRecDepth 100000 in
/-- enzymeLeft -/
theorem cM_enzymeLeft (l : Launch) (dC : Nat → ClassId) (dI : Nat → Nat → Nat) (tt : Nat → Nat) (sz : Nat) (ad : Nat → Nat) (cA : Nat → ClassId) (a : Nat → UInt64) (dv : Nat → Nat → UInt64) (ib : Nat → Int32) (ac : Nat → UInt64) (hs : Nat → Int32) (ht : Nat → UInt64) (hc hn : Int32) (rv : Nat → UInt64) (ra : UInt64) (dc nw : Int32) (Tm Ac ts : UInt64) (gt lt : Int32) (kind : Int32) : Ct l dC dI tt yM_enzymeLeft bM_enzymeLeft 2 (some .double) ({ frames := 0, cells := 0, slots := 0, locals := 0 }) (tM cA) [.ref (ad 0), .int kind] (wM ad cA a dv ib ac hs ht hc hn rv ra dc nw Tm Ac ts gt lt) sz (fun A => ctQd dC dI (tM cA) (kdV a 9 4 kind) (wM ad cA a dv ib ac hs ht hc hn rv ra dc nw Tm Ac ts gt lt) A) := by
  refine ct_of (by decide) (Nat.le_of_ble_eq_true rfl) ?_
  intro p e s m below meth c A ls hx hb hr hts hown hml hlocks hnm hA hS hP hK hD hT hl
  have hl : lv_has ls 2 [(0, .ref (ad 0)), (1, .int kind)] := hl
  refine lv_iload_n hx hb dM_enzymeLeft_0 rfl (lv_at hl 1 rfl) ?_
  refine lv_if_lt (tgt := 21) hx hb dM_enzymeLeft_1 (by decide) (fun c_1 => ?_) (fun c_1 => ?_)
  · refine lv_ldc2d hx hb hown (hts _ tw_d_M_98) dM_enzymeLeft_21 ?_
    exact ct_dret hx hb hr hlocks hP hK hD hS (by unfold kdV; rw [if_neg (fun h => Int32.not_lt.mpr h.1 c_1)]) dM_enzymeLeft_24
  · refine lv_iload_n hx hb dM_enzymeLeft_4 rfl (lv_at hl 1 rfl) ?_
    refine lv_iconst (v := 4) hx hb dM_enzymeLeft_5 (by decide) ?_
    refine lv_icmp_ge (tgt := 21) hx hb dM_enzymeLeft_6 (by decide) (fun c_2 => ?_) (fun c_2 => ?_)
    · refine lv_ldc2d hx hb hown (hts _ tw_d_M_98) dM_enzymeLeft_21 ?_
      exact ct_dret hx hb hr hlocks hP hK hD hS (by unfold kdV; rw [if_neg (fun h => Int32.not_lt.mpr c_2 h.2)]) dM_enzymeLeft_24
    · obtain ⟨k, hk, rfl⟩ := nI_of (x := kind) c_1
      have hk5 : k < 4 := Nat.lt_of_not_le fun h => c_2 (nI_le h hk)
      refine lv_aload_n hx hb dM_enzymeLeft_9 rfl (lv_at hl 0 rfl) ?_
      refine va_get (D := (dC, dI)) (ci := 0) (v := .ref (ad 1)) (C := "MashEnzymes") (T := F_M) (N := 13) hx hb hts in_M hown hK hP 0 rfl rfl 0 (by decide) (hts _ tw_f_M_9) (fun _ h9 => h9) rfl dM_enzymeLeft_10 ?_
      refine lv_bipush (v := 9) hx hb dM_enzymeLeft_13 (by decide) ?_
      refine lv_iload_n hx hb dM_enzymeLeft_15 rfl (lv_at hl 1 rfl) ?_
      refine lv_iadd hx hb dM_enzymeLeft_16 ?_
      refine ct_topi (y := nI (9 + k)) (by rw [show (9 : Int32) = nI 9 from rfl, nI_add]) ?_
      refine ct_dald (k := (9 + k)) (v := a (9 + k)) hx hb hK hP 1 0 rfl rfl (vp_in_nI (by omega) (by decide)) (nI_clamp (by omega)) (rfl) dM_enzymeLeft_17 ?_
      refine lv_goto (tgt := 24) hx hb dM_enzymeLeft_18 (by decide) ?_
      exact ct_dret hx hb hr hlocks hP hK hD hS (by unfold kdV; rw [if_pos ⟨nI_pos' hk, nI_lt hk5 (by decide)⟩, nI_clamp hk]) dM_enzymeLeft_24

set_option maxHeartbeats 4000000 in
set_option maxRecDepth 100000 in
/-- starch -/
theorem cM_starch (l : Launch) (dC : Nat → ClassId) (dI : Nat → Nat → Nat) (tt : Nat → Nat) (sz : Nat) (ad : Nat → Nat) (cA : Nat → ClassId) (a : Nat → UInt64) (dv : Nat → Nat → UInt64) (ib : Nat → Int32) (ac : Nat → UInt64) (hs : Nat → Int32) (ht : Nat → UInt64) (hc hn : Int32) (rv : Nat → UInt64) (ra : UInt64) (dc nw : Int32) (Tm Ac ts : UInt64) (gt lt : Int32) (hok : vf_n64 (FP.dadd (a 1) (a 2))) : Ct l dC dI tt yM_starch bM_starch 1 (some .double) ({ frames := 0, cells := 0, slots := 0, locals := 0 }) (tM cA) [.ref (ad 0)] (wM ad cA a dv ib ac hs ht hc hn rv ra dc nw Tm Ac ts gt lt) sz (fun A => ctQd dC dI (tM cA) (FP.dadd (a 1) (a 2)) (wM ad cA a dv ib ac hs ht hc hn rv ra dc nw Tm Ac ts gt lt) A) := by
  refine ct_of (by decide) (Nat.le_of_ble_eq_true rfl) ?_
  intro p e s m below meth c A ls hx hb hr hts hown hml hlocks hnm hA hS hP hK hD hT hl
  have hl : lv_has ls 1 [(0, .ref (ad 0))] := hl
  refine lv_aload_n hx hb dM_starch_0 rfl (lv_at hl 0 rfl) ?_
  refine va_get (D := (dC, dI)) (ci := 0) (v := .ref (ad 1)) (C := "MashEnzymes") (T := F_M) (N := 13) hx hb hts in_M hown hK hP 0 rfl rfl 0 (by decide) (hts _ tw_f_M_9) (fun _ h9 => h9) rfl dM_starch_1 ?_
  refine lv_iconst (v := 1) hx hb dM_starch_4 (by decide) ?_
  refine ct_dald (k := 1) (v := a 1) hx hb hK hP 1 0 rfl rfl (by unfold vp_in; decide) (rfl) (rfl) dM_starch_5 ?_
  refine lv_aload_n hx hb dM_starch_6 rfl (lv_at hl 0 rfl) ?_
  refine va_get (D := (dC, dI)) (ci := 0) (v := .ref (ad 1)) (C := "MashEnzymes") (T := F_M) (N := 13) hx hb hts in_M hown hK hP 0 rfl rfl 0 (by decide) (hts _ tw_f_M_9) (fun _ h9 => h9) rfl dM_starch_7 ?_
  refine lv_iconst (v := 2) hx hb dM_starch_10 (by decide) ?_
  refine ct_dald (k := 2) (v := a 2) hx hb hK hP 1 0 rfl rfl (by unfold vp_in; decide) (rfl) (rfl) dM_starch_11 ?_
  refine lv_dadd hx hb dM_starch_12 (hok) ?_
  exact ct_dret hx hb hr hlocks hP hK hD hS (rfl) dM_starch_13

set_option maxHeartbeats 4000000 in
set_option maxRecDepth 100000 in
/-- degrees -/
theorem cM_degrees (l : Launch) (dC : Nat → ClassId) (dI : Nat → Nat → Nat) (tt : Nat → Nat) (sz : Nat) (ad : Nat → Nat) (cA : Nat → ClassId) (a : Nat → UInt64) (dv : Nat → Nat → UInt64) (ib : Nat → Int32) (ac : Nat → UInt64) (hs : Nat → Int32) (ht : Nat → UInt64) (hc hn : Int32) (rv : Nat → UInt64) (ra : UInt64) (dc nw : Int32) (Tm Ac ts : UInt64) (gt lt : Int32) : Ct l dC dI tt yM_degrees bM_degrees 1 (some .double) ({ frames := 0, cells := 0, slots := 0, locals := 0 }) (tM cA) [.ref (ad 0)] (wM ad cA a dv ib ac hs ht hc hn rv ra dc nw Tm Ac ts gt lt) sz (fun A => ctQd dC dI (tM cA) Tm (wM ad cA a dv ib ac hs ht hc hn rv ra dc nw Tm Ac ts gt lt) A) := by
  refine ct_of (by decide) (Nat.le_of_ble_eq_true rfl) ?_
  intro p e s m below meth c A ls hx hb hr hts hown hml hlocks hnm hA hS hP hK hD hT hl
  have hl : lv_has ls 1 [(0, .ref (ad 0))] := hl
  refine lv_aload_n hx hb dM_degrees_0 rfl (lv_at hl 0 rfl) ?_
  refine va_get (D := (dC, dI)) (ci := 0) (v := .double Tm) (C := "MashEnzymes") (T := F_M) (N := 13) hx hb hts in_M hown hK hP 0 rfl rfl 8 (by decide) (hts _ tw_f_M_68) (fun _ h9 => h9) rfl dM_degrees_1 ?_
  exact ct_dret hx hb hr hlocks hP hK hD hS (rfl) dM_degrees_4

set_option maxHeartbeats 4000000 in
set_option maxRecDepth 100000 in
/-- water -/
theorem cM_water (l : Launch) (dC : Nat → ClassId) (dI : Nat → Nat → Nat) (tt : Nat → Nat) (sz : Nat) (ad : Nat → Nat) (cA : Nat → ClassId) (a : Nat → UInt64) (dv : Nat → Nat → UInt64) (ib : Nat → Int32) (ac : Nat → UInt64) (hs : Nat → Int32) (ht : Nat → UInt64) (hc hn : Int32) (rv : Nat → UInt64) (ra : UInt64) (dc nw : Int32) (Tm Ac ts : UInt64) (gt lt : Int32) : Ct l dC dI tt yM_water bM_water 1 (some .double) ({ frames := 0, cells := 0, slots := 0, locals := 0 }) (tM cA) [.ref (ad 0)] (wM ad cA a dv ib ac hs ht hc hn rv ra dc nw Tm Ac ts gt lt) sz (fun A => ctQd dC dI (tM cA) (a 0) (wM ad cA a dv ib ac hs ht hc hn rv ra dc nw Tm Ac ts gt lt) A) := by
  refine ct_of (by decide) (Nat.le_of_ble_eq_true rfl) ?_
  intro p e s m below meth c A ls hx hb hr hts hown hml hlocks hnm hA hS hP hK hD hT hl
  have hl : lv_has ls 1 [(0, .ref (ad 0))] := hl
  refine lv_aload_n hx hb dM_water_0 rfl (lv_at hl 0 rfl) ?_
  refine va_get (D := (dC, dI)) (ci := 0) (v := .ref (ad 1)) (C := "MashEnzymes") (T := F_M) (N := 13) hx hb hts in_M hown hK hP 0 rfl rfl 0 (by decide) (hts _ tw_f_M_9) (fun _ h9 => h9) rfl dM_water_1 ?_
  refine lv_iconst (v := 0) hx hb dM_water_4 (by decide) ?_
  refine ct_dald (k := 0) (v := a 0) hx hb hK hP 1 0 rfl rfl (by unfold vp_in; decide) (rfl) (rfl) dM_water_5 ?_
  exact ct_dret hx hb hr hlocks hP hK hD hS (rfl) dM_water_6

def cvOK (a : Nat → UInt64) (ts : UInt64) (gt lt : Int32) : Prop := ¬ (gt = 0 ∨ lt = 0) ∧ ¬ FP.dcmp (FP.dmul 4638707616191610880 (FP.dadd (a 1) (a 2))) ts = some .gt
set_option maxHeartbeats 4000000 in
set_option maxRecDepth 100000 in
/-- converted -/
theorem cM_converted (l : Launch) (dC : Nat → ClassId) (dI : Nat → Nat → Nat) (tt : Nat → Nat) (sz : Nat) (ad : Nat → Nat) (cA : Nat → ClassId) (a : Nat → UInt64) (dv : Nat → Nat → UInt64) (ib : Nat → Int32) (ac : Nat → UInt64) (hs : Nat → Int32) (ht : Nat → UInt64) (hc hn : Int32) (rv : Nat → UInt64) (ra : UInt64) (dc nw : Int32) (Tm Ac ts : UInt64) (gt lt : Int32) (hok : vf_n64 (FP.dadd (a 1) (a 2)) ∧ vf_n64 (FP.dmul 4638707616191610880 (FP.dadd (a 1) (a 2))) ∧ FP.dcmp (FP.dmul 4638707616191610880 (FP.dadd (a 1) (a 2))) ts ≠ none) : Ct l dC dI tt yM_converted bM_converted 1 (some .boolean) ({ frames := 1, cells := 0, slots := 0, locals := 20 }) (tM cA) [.ref (ad 0)] (wM ad cA a dv ib ac hs ht hc hn rv ra dc nw Tm Ac ts gt lt) sz (fun A => ctQc dC dI (tM cA) (cvOK a ts gt lt) 1 (wM ad cA a dv ib ac hs ht hc hn rv ra dc nw Tm Ac ts gt lt) 0 (wM ad cA a dv ib ac hs ht hc hn rv ra dc nw Tm Ac ts gt lt) A) := by
  refine ct_of (by decide) (Nat.le_of_ble_eq_true rfl) ?_
  intro p e s m below meth c A ls hx hb hr hts hown hml hlocks hnm hA hS hP hK hD hT hl
  have hl : lv_has ls 1 [(0, .ref (ad 0))] := hl
  refine lv_aload_n hx hb dM_converted_0 rfl (lv_at hl 0 rfl) ?_
  refine ct_cvc (As := []) (rest := []) (wr := []) (w1 := (wM ad cA a dv ib ac hs ht hc hn rv ra dc nw Tm Ac ts gt lt)) (w0 := (wM ad cA a dv ib ac hs ht hc hn rv ra dc nw Tm Ac ts gt lt)) ⟨hx, hb, hml, hown, hts⟩ (cM_isEmpty l dC dI tt _ ad cA a dv ib ac hs ht hc hn rv ra dc nw Tm Ac ts gt lt) (gT_V tw_m_M_90 tw_i_yM_isEmpty tw_s_yM_isEmpty tw_I_M tw_c_yM_isEmpty) ⟨rfl, by decide +kernel, by decide +kernel, (by decide +kernel : (parseMethodDescriptor yM_isEmpty.desc).map (fun d => d.parameters.length) = some 0)⟩ ⟨by decide, by decide⟩ (ci := 0) rfl rfl rfl hP hD hK hS hA hT [0, 1, 2, 3, 4, 5, 6, 7, 8, 9, 10, 11, 12, 13, 14, 15, 16, 17] [] [0, 1, 2, 3, 4, 5, 6, 7] (by decide) rfl rfl (by decide) (by decide) rfl hl.1 rfl (Nat.le_of_ble_eq_true rfl) dM_converted_1 ⟨by decide, by decide⟩ (fun c_1 H locs hP hD hS => ?_) (fun c_1 H locs hP hD hS => ?_)
  · have hP : va_P (dC, dI) cls (wM ad cA a dv ib ac hs ht hc hn rv ra dc nw Tm Ac ts gt lt) H := hP
    have hD : va_D A (wM ad cA a dv ib ac hs ht hc hn rv ra dc nw Tm Ac ts gt lt) := hD
    refine lv_if_ne (tgt := 27) hx hb dM_converted_4 (by decide) (fun c_2 => ?_) (fun c_2 => ?_)
    · refine lv_iconst (v := 0) hx hb dM_converted_27 (by decide) ?_
      exact ct_ret0 hx hb hr rfl hlocks hP hK hD hS (fun h => h.1 c_1) rfl dM_converted_28
    · exact (absurd c_2 (by decide))
  · have hP : va_P (dC, dI) cls (wM ad cA a dv ib ac hs ht hc hn rv ra dc nw Tm Ac ts gt lt) H := hP
    have hD : va_D A (wM ad cA a dv ib ac hs ht hc hn rv ra dc nw Tm Ac ts gt lt) := hD
    refine lv_if_ne (tgt := 27) hx hb dM_converted_4 (by decide) (fun c_3 => ?_) (fun c_3 => ?_)
    · exact absurd rfl c_3
    · refine lv_ldc2d hx hb hown (hts _ tw_d_M_103) dM_converted_7 ?_
      refine lv_aload_n hx hb dM_converted_10 rfl (lv_at hl 0 rfl) ?_
      refine ct_cvd (As := []) (rest := [.double 4638707616191610880]) (wr := []) (w1 := (wM ad cA a dv ib ac hs ht hc hn rv ra dc nw Tm Ac ts gt lt)) ⟨hx, hb, hml, hown, hts⟩ (cM_starch l dC dI tt _ ad cA a dv ib ac hs ht hc hn rv ra dc nw Tm Ac ts gt lt hok.1) (gT_V tw_m_M_105 tw_i_yM_starch tw_s_yM_starch tw_I_M tw_c_yM_starch) ⟨rfl, by decide +kernel, by decide +kernel, (by decide +kernel : (parseMethodDescriptor yM_starch.desc).map (fun d => d.parameters.length) = some 0)⟩ ⟨by decide, by decide⟩ (ci := 0) rfl rfl rfl hP hD hK hS hA hT [0, 1, 2, 3, 4, 5, 6, 7, 8, 9, 10, 11, 12, 13, 14, 15, 16, 17] [] [0, 1, 2, 3, 4, 5, 6, 7] (by decide) rfl rfl (by decide) (by decide) rfl hl.1 rfl (Nat.le_of_ble_eq_true rfl) dM_converted_11 ⟨by decide, by decide⟩ (fun H locs hP hD hS => ?_)
      have hP : va_P (dC, dI) cls (wM ad cA a dv ib ac hs ht hc hn rv ra dc nw Tm Ac ts gt lt) H := hP
      have hD : va_D A (wM ad cA a dv ib ac hs ht hc hn rv ra dc nw Tm Ac ts gt lt) := hD
      refine lv_dmul hx hb dM_converted_14 (hok.2.1) ?_
      refine lv_aload_n hx hb dM_converted_15 rfl (lv_at hl 0 rfl) ?_
      refine va_get (D := (dC, dI)) (ci := 0) (v := .double ts) (C := "MashEnzymes") (T := F_M) (N := 13) hx hb hts in_M hown hK hP 0 rfl rfl 10 (by decide) (hts _ tw_f_M_41) (fun _ h9 => h9) rfl dM_converted_16 ?_
      refine lv_dcmp hx hb dM_converted_19 ?_
      refine lv_if_gt (tgt := 27) hx hb dM_converted_20 (by decide) (fun c_4 => ?_) (fun c_4 => ?_)
      · refine lv_iconst (v := 0) hx hb dM_converted_27 (by decide) ?_
        exact ct_ret0 hx hb hr rfl hlocks hP hK hD hS (fun h => h.2 ((cvn_g hok.2.2).mp c_4)) rfl dM_converted_28
      · refine lv_iconst (v := 1) hx hb dM_converted_23 (by decide) ?_
        refine lv_goto (tgt := 28) hx hb dM_converted_24 (by decide) ?_
        exact ct_ret1 hx hb hr rfl hlocks hP hK hD hS ⟨c_1, fun h => c_4 ((cvn_g hok.2.2).mpr h)⟩ rfl dM_converted_28

set_option maxHeartbeats 4000000 in
set_option maxRecDepth 100000 in
/-- enzyme -/
theorem cM_enzyme (l : Launch) (dC : Nat → ClassId) (dI : Nat → Nat → Nat) (tt : Nat → Nat) (sz : Nat) (ad : Nat → Nat) (cA : Nat → ClassId) (a : Nat → UInt64) (dv : Nat → Nat → UInt64) (ib : Nat → Int32) (ac : Nat → UInt64) (hs : Nat → Int32) (ht : Nat → UInt64) (hc hn : Int32) (rv : Nat → UInt64) (ra : UInt64) (dc nw : Int32) (Tm Ac ts : UInt64) (gt lt : Int32) (kind : Int32) (am : UInt64) (hna : nNo am) (hok : ezOK kind am → vf_n64 (FP.dadd (a (9 + kind.toNatClampNeg)) am)) : Ct l dC dI tt yM_enzyme bM_enzyme 5 (some .boolean) ({ frames := 0, cells := 0, slots := 0, locals := 0 }) (tM cA) [.ref (ad 0), .int kind, .double am] (wM ad cA a dv ib ac hs ht hc hn rv ra dc nw Tm Ac ts gt lt) sz (fun A => ctQc dC dI (tM cA) (ezOK kind am) 1 (wM ad cA (vf_upd a (9 + kind.toNatClampNeg) (FP.dadd (a (9 + kind.toNatClampNeg)) am)) dv ib ac hs ht hc hn rv ra dc nw Tm Ac ts gt lt) 0 (wM ad cA a dv ib ac hs ht hc hn rv ra dc nw Tm Ac ts gt lt) A) := by
  refine ct_of (by decide) (Nat.le_of_ble_eq_true rfl) ?_
  intro p e s m below meth c A ls hx hb hr hts hown hml hlocks hnm hA hS hP hK hD hT hl
  have hl : lv_has ls 5 [(0, .ref (ad 0)), (1, .int kind), (2, .double am)] := hl
  refine lv_dload_n hx hb dM_enzyme_0 rfl (lv_at hl 2 rfl) ?_
  refine lv_dconst0 hx hb dM_enzyme_1 ?_
  refine ct_topd (y := 0) rfl ?_
  refine lv_dcmp hx hb dM_enzyme_2 ?_
  refine lv_if_le (tgt := 18) hx hb dM_enzyme_3 (by decide) (fun c_1 => ?_) (fun c_1 => ?_)
  · refine lv_iconst (v := 0) hx hb dM_enzyme_18 (by decide) ?_
    refine lv_istore (lv' := [(4, .int 0), (0, .ref (ad 0)), (1, .int kind), (2, .double am)]) hx hb dM_enzyme_19 hl (by decide) rfl (fun ls hl => ?_)
    refine lv_iload hx hb dM_enzyme_21 (lv_at hl 0 rfl) ?_
    refine lv_if_eq (tgt := 35) hx hb dM_enzyme_23 (by decide) (fun c_2 => ?_) (fun c_2 => ?_)
    · refine lv_iconst (v := 0) hx hb dM_enzyme_35 (by decide) ?_
      exact ct_ret0 hx hb hr rfl hlocks hP hK hD hS (fun h => (cv_l_le _).mp c_1 h.1) rfl dM_enzyme_36
    · exact absurd rfl c_2
  · have h_am0 := (Classical.not_not.mp fun h => c_1 ((cv_l_le _).mpr h) : FP.dcmp am 0 = some .gt)
    refine lv_dload_n hx hb dM_enzyme_6 rfl (lv_at hl 2 rfl) ?_
    refine lv_ldc2d hx hb hown (hts _ tw_d_M_39) dM_enzyme_7 ?_
    refine lv_dcmp hx hb dM_enzyme_10 ?_
    refine lv_if_gt (tgt := 18) hx hb dM_enzyme_11 (by decide) (fun c_3 => ?_) (fun c_3 => ?_)
    · refine lv_iconst (v := 0) hx hb dM_enzyme_18 (by decide) ?_
      refine lv_istore (lv' := [(4, .int 0), (0, .ref (ad 0)), (1, .int kind), (2, .double am)]) hx hb dM_enzyme_19 hl (by decide) rfl (fun ls hl => ?_)
      refine lv_iload hx hb dM_enzyme_21 (lv_at hl 0 rfl) ?_
      refine lv_if_eq (tgt := 35) hx hb dM_enzyme_23 (by decide) (fun c_4 => ?_) (fun c_4 => ?_)
      · refine lv_iconst (v := 0) hx hb dM_enzyme_35 (by decide) ?_
        exact ct_ret0 hx hb hr rfl hlocks hP hK hD hS (fun h => h.2.1 ((cvn_g (hna _ (by decide))).mp c_3)) rfl dM_enzyme_36
      · exact absurd rfl c_4
    · have h_am1 := (fun h => c_3 ((cvn_g (hna _ (by decide))).mpr h) : ¬ FP.dcmp am 4652007308841189376 = some .gt)
      refine lv_iconst (v := 1) hx hb dM_enzyme_14 (by decide) ?_
      refine lv_goto (tgt := 19) hx hb dM_enzyme_15 (by decide) ?_
      refine lv_istore (lv' := [(4, .int 1), (0, .ref (ad 0)), (1, .int kind), (2, .double am)]) hx hb dM_enzyme_19 hl (by decide) rfl (fun ls hl => ?_)
      refine lv_iload hx hb dM_enzyme_21 (lv_at hl 0 rfl) ?_
      refine lv_if_eq (tgt := 35) hx hb dM_enzyme_23 (by decide) (fun c_5 => ?_) (fun c_5 => ?_)
      · exact (absurd c_5 (by decide))
      · refine lv_iload_n hx hb dM_enzyme_26 rfl (lv_at hl 2 rfl) ?_
        refine lv_if_lt (tgt := 35) hx hb dM_enzyme_27 (by decide) (fun c_6 => ?_) (fun c_6 => ?_)
        · refine lv_iconst (v := 0) hx hb dM_enzyme_35 (by decide) ?_
          exact ct_ret0 hx hb hr rfl hlocks hP hK hD hS (fun h => Int32.not_lt.mpr h.2.2.1 c_6) rfl dM_enzyme_36
        · have h_k0 := (c_6 : ¬ kind < 0)
          refine lv_iload_n hx hb dM_enzyme_30 rfl (lv_at hl 2 rfl) ?_
          refine lv_iconst (v := 4) hx hb dM_enzyme_31 (by decide) ?_
          refine lv_icmp_lt (tgt := 37) hx hb dM_enzyme_32 (by decide) (fun c_7 => ?_) (fun c_7 => ?_)
          · have h_k1 := (c_7 : kind < 4)
            have hz : ezOK kind am := ⟨h_am0, h_am1, Int32.not_lt.mp h_k0, h_k1⟩
            obtain ⟨k, hk, rfl⟩ := nI_of (x := kind) h_k0
            have hk4 : k < 4 := (nI_ltI hk (by decide)).mp h_k1
            have hok9 := hok hz
            rw [nI_clamp hk] at hok9
            rw [nI_clamp hk]
            refine lv_aload_n hx hb dM_enzyme_37 rfl (lv_at hl 1 rfl) ?_
            refine va_get (D := (dC, dI)) (ci := 0) (v := .ref (ad 1)) (C := "MashEnzymes") (T := F_M) (N := 13) hx hb hts in_M hown hK hP 0 rfl rfl 0 (by decide) (hts _ tw_f_M_9) (fun _ h9 => h9) rfl dM_enzyme_38 ?_
            refine lv_bipush (v := 9) hx hb dM_enzyme_41 (by decide) ?_
            refine lv_iload_n hx hb dM_enzyme_43 rfl (lv_at hl 2 rfl) ?_
            refine lv_iadd hx hb dM_enzyme_44 ?_
            refine ct_topi (y := nI (9 + k)) (by rw [show (9 : Int32) = nI 9 from rfl, nI_add]) ?_
            refine lv_aload_n hx hb dM_enzyme_45 rfl (lv_at hl 1 rfl) ?_
            refine va_get (D := (dC, dI)) (ci := 0) (v := .ref (ad 1)) (C := "MashEnzymes") (T := F_M) (N := 13) hx hb hts in_M hown hK hP 0 rfl rfl 0 (by decide) (hts _ tw_f_M_9) (fun _ h9 => h9) rfl dM_enzyme_46 ?_
            refine lv_bipush (v := 9) hx hb dM_enzyme_49 (by decide) ?_
            refine lv_iload_n hx hb dM_enzyme_51 rfl (lv_at hl 2 rfl) ?_
            refine lv_iadd hx hb dM_enzyme_52 ?_
            refine ct_topi (y := nI (9 + k)) (by rw [show (9 : Int32) = nI 9 from rfl, nI_add]) ?_
            refine ct_dald (k := (9 + k)) (v := a (9 + k)) hx hb hK hP 1 0 rfl rfl (vp_in_nI (by omega) (by decide)) (nI_clamp (by omega)) (rfl) dM_enzyme_53 ?_
            refine lv_dload_n hx hb dM_enzyme_54 rfl (lv_at hl 3 rfl) ?_
            refine lv_dadd hx hb dM_enzyme_55 (hok9) ?_
            refine ct_dast (k := (9 + k)) (w1 := (wM ad cA (vf_upd a (9 + k) (FP.dadd (a (9 + k)) am)) dv ib ac hs ht hc hn rv ra dc nw Tm Ac ts gt lt)) hx hb hK hP hD hS 1 0 rfl rfl (vp_in_nI (by omega) (by decide)) (nI_clamp (by omega)) (rfl) dM_enzyme_56 (fun H locs hP hD hS => ?_)
            refine lv_iconst (v := 1) hx hb dM_enzyme_57 (by decide) ?_
            exact ct_ret1 hx hb hr rfl hlocks hP hK hD hS hz rfl dM_enzyme_58
          · refine lv_iconst (v := 0) hx hb dM_enzyme_35 (by decide) ?_
            exact ct_ret0 hx hb hr rfl hlocks hP hK hD hS (fun h => c_7 h.2.2.2) rfl dM_enzyme_36

set_option maxHeartbeats 4000000 in
set_option maxRecDepth 100000 in
/-- step -/
theorem cM_step (l : Launch) (dC : Nat → ClassId) (dI : Nat → Nat → Nat) (tt : Nat → Nat) (sz : Nat) (ad : Nat → Nat) (cA : Nat → ClassId) (a : Nat → UInt64) (dv : Nat → Nat → UInt64) (ib : Nat → Int32) (ac : Nat → UInt64) (hs : Nat → Int32) (ht : Nat → UInt64) (c0 : Nat) (hn : Int32) (rv : Nat → UInt64) (ra : UInt64) (dc nw : Int32) (Tm Ac ts : UInt64) (gt lt : Int32) (sec : Int32) (d : UInt64) (hc32 : c0 ≤ 32) : Ct l dC dI tt yM_step bM_step 4 (some .boolean) ({ frames := 1, cells := 0, slots := 0, locals := 23 }) (tM cA) [.ref (ad 0), .int sec, .double d] (wM ad cA a dv ib ac hs ht (nI c0) hn rv ra dc nw Tm Ac ts gt lt) sz (fun A => ctQc dC dI (tM cA) (stOK hs c0 nw sec d) 1 (wM ad cA a dv ib ac (upd hs c0 sec) (vf_upd ht c0 d) (nI (c0 + 1)) hn rv ra dc nw Tm Ac ts gt lt) 0 (wM ad cA a dv ib ac hs ht (nI c0) hn rv ra dc nw Tm Ac ts gt lt) A) := by
  refine ct_of (by decide) (Nat.le_of_ble_eq_true rfl) ?_
  intro p e s m below meth c A ls hx hb hr hts hown hml hlocks hnm hA hS hP hK hD hT hl
  have hl : lv_has ls 4 [(0, .ref (ad 0)), (1, .int sec), (2, .double d)] := hl
  refine lv_iload_n hx hb dM_step_0 rfl (lv_at hl 1 rfl) ?_
  refine lv_aload_n hx hb dM_step_1 rfl (lv_at hl 0 rfl) ?_
  refine va_get (D := (dC, dI)) (ci := 0) (v := .int nw) (C := "MashEnzymes") (T := F_M) (N := 13) hx hb hts in_M hown hK hP 0 rfl rfl 7 (by decide) (hts _ tw_f_M_81) (fun _ h9 => h9) rfl dM_step_2 ?_
  refine lv_icmp_le (tgt := 21) hx hb dM_step_5 (by decide) (fun c_1 => ?_) (fun c_1 => ?_)
  · refine lv_iconst (v := 0) hx hb dM_step_21 (by decide) ?_
    exact ct_ret0 hx hb hr rfl hlocks hP hK hD hS (fun h => Int32.not_le.mpr h.1 c_1) rfl dM_step_22
  · have h_1 := (Int32.not_le.mp c_1 : nw < sec)
    refine lv_iload_n hx hb dM_step_8 rfl (lv_at hl 1 rfl) ?_
    refine lv_ldc hx hb hown (hts _ tw_k_M_85) dM_step_9 ?_
    refine lv_icmp_gt (tgt := 21) hx hb dM_step_11 (by decide) (fun c_2 => ?_) (fun c_2 => ?_)
    · refine lv_iconst (v := 0) hx hb dM_step_21 (by decide) ?_
      exact ct_ret0 hx hb hr rfl hlocks hP hK hD hS (fun h => Int32.not_lt.mpr h.2.1 c_2) rfl dM_step_22
    · have h_2 := (Int32.not_lt.mp c_2 : sec ≤ 1000000)
      refine lv_dload_n hx hb dM_step_14 rfl (lv_at hl 2 rfl) ?_
      refine ct_csc (As := [.double d]) (rest := []) (wr := (wM ad cA a dv ib ac hs ht (nI c0) hn rv ra dc nw Tm Ac ts gt lt)) ⟨hx, hb, hml, hown, hts⟩ (cM_isTemperature l dC dI tt _ d) (gT_S tw_m_M_62 tw_st_yM_isTemperature tw_I_M tw_c_yM_isTemperature) ⟨by decide +kernel, by decide +kernel, (by decide +kernel : (parseMethodDescriptor yM_isTemperature.desc).map (fun d => d.parameters.length) = some 1)⟩ ⟨by decide, by decide⟩ hP hD hK hS hA hT [0, 1, 2, 3, 4, 5, 6, 7, 8, 9, 10, 11, 12, 13, 14, 15, 16, 17] rfl (by decide) hl.1 rfl (Nat.le_of_ble_eq_true rfl) dM_step_15 ⟨by decide, by decide⟩ (fun c_3 H locs hP hD hS => ?_) (fun c_3 H locs hP hD hS => ?_)
      · have hP : va_P (dC, dI) cls (wM ad cA a dv ib ac hs ht (nI c0) hn rv ra dc nw Tm Ac ts gt lt) H := hP
        have hD : va_D A (wM ad cA a dv ib ac hs ht (nI c0) hn rv ra dc nw Tm Ac ts gt lt) := hD
        refine lv_if_ne (tgt := 23) hx hb dM_step_18 (by decide) (fun c_4 => ?_) (fun c_4 => ?_)
        · refine lv_aload_n hx hb dM_step_23 rfl (lv_at hl 0 rfl) ?_
          refine va_get (D := (dC, dI)) (ci := 0) (v := .ref (ad 5)) (C := "MashEnzymes") (T := F_M) (N := 13) hx hb hts in_M hown hK hP 0 rfl rfl 4 (by decide) (hts _ tw_f_M_28) (fun _ h9 => h9) rfl dM_step_24 ?_
          refine lv_iload_n hx hb dM_step_27 rfl (lv_at hl 1 rfl) ?_
          refine lv_dload_n hx hb dM_step_28 rfl (lv_at hl 2 rfl) ?_
          refine ct_cvc (As := [.int sec, .double d]) (rest := []) (wr := [((ad 0), .inr (0, [.ref (ad 1), .ref (ad 2), .ref (ad 3), .ref (ad 4), .ref (ad 5), .ref (ad 8), .int dc, .int nw, .double Tm, .double Ac, .double ts, .int gt, .int lt])), ((ad 1), .inl (cA 0, 13, .inr (.inr (.inr (.inl a))))), ((ad 2), .inl (cA 1, 8, .inr (.inr (.inr (.inr (fun i => if i < 8 then some (ad (i + 10)) else none)))))), ((ad 3), .inl (cA 2, 8, .inl ib)), ((ad 4), .inl (cA 3, 4, .inr (.inr (.inr (.inl ac))))), ((ad 8), .inr (2, [.ref (ad 9), .double ra])), ((ad 9), .inl (cA 6, 9, .inr (.inr (.inr (.inl rv))))), ((ad 10), .inl (cA 7, 13, .inr (.inr (.inr (.inl (dv 0)))))), ((ad 11), .inl (cA 7, 13, .inr (.inr (.inr (.inl (dv 1)))))), ((ad 12), .inl (cA 7, 13, .inr (.inr (.inr (.inl (dv 2)))))), ((ad 13), .inl (cA 7, 13, .inr (.inr (.inr (.inl (dv 3)))))), ((ad 14), .inl (cA 7, 13, .inr (.inr (.inr (.inl (dv 4)))))), ((ad 15), .inl (cA 7, 13, .inr (.inr (.inr (.inl (dv 5)))))), ((ad 16), .inl (cA 7, 13, .inr (.inr (.inr (.inl (dv 6)))))), ((ad 17), .inl (cA 7, 13, .inr (.inr (.inr (.inl (dv 7))))))]) (w1 := (wH (ad 5) (ad 6) (ad 7) (cA 4) (cA 5) (upd hs c0 sec) (vf_upd ht c0 d) (nI (c0 + 1)) hn)) (w0 := (wH (ad 5) (ad 6) (ad 7) (cA 4) (cA 5) hs ht (nI c0) hn)) ⟨hx, hb, hml, hown, hts⟩ (cH_append l dC dI tt _ (ad 5) (ad 6) (ad 7) (cA 4) (cA 5) hs ht c0 hn sec d hc32) (gT_V tw_m_M_86 tw_i_yH_append tw_s_yH_append tw_I_H tw_c_yH_append) ⟨rfl, by decide +kernel, by decide +kernel, (by decide +kernel : (parseMethodDescriptor yH_append.desc).map (fun d => d.parameters.length) = some 2)⟩ ⟨by decide, by decide⟩ (ci := 1) rfl rfl rfl hP hD hK hS hA hT [5, 6, 7] [0, 1, 2, 3, 4, 8, 9, 10, 11, 12, 13, 14, 15, 16, 17] [4, 5] (by decide) rfl rfl (by decide) (by decide) rfl hl.1 rfl (Nat.le_of_ble_eq_true rfl) dM_step_29 ⟨by decide, by decide⟩ (fun c_5 H locs hP hD hS => ?_) (fun c_5 H locs hP hD hS => ?_)
          · have hP := hP.sub (ws' := (wM ad cA a dv ib ac (upd hs c0 sec) (vf_upd ht c0 d) (nI (c0 + 1)) hn rv ra dc nw Tm Ac ts gt lt)) [0, 1, 2, 3, 4, 15, 16, 17, 5, 6, 7, 8, 9, 10, 11, 12, 13, 14] rfl
            have hD := hD.sub (ws' := (wM ad cA a dv ib ac (upd hs c0 sec) (vf_upd ht c0 d) (nI (c0 + 1)) hn rv ra dc nw Tm Ac ts gt lt)) [0, 1, 2, 3, 4, 15, 16, 17, 5, 6, 7, 8, 9, 10, 11, 12, 13, 14] (by decide) rfl
            exact ct_ret1 hx hb hr rfl hlocks hP hK hD hS ⟨h_1, h_2, c_3, c_5⟩ rfl dM_step_32
          · have hP := hP.sub (ws' := (wM ad cA a dv ib ac hs ht (nI c0) hn rv ra dc nw Tm Ac ts gt lt)) [0, 1, 2, 3, 4, 15, 16, 17, 5, 6, 7, 8, 9, 10, 11, 12, 13, 14] rfl
            have hD := hD.sub (ws' := (wM ad cA a dv ib ac hs ht (nI c0) hn rv ra dc nw Tm Ac ts gt lt)) [0, 1, 2, 3, 4, 15, 16, 17, 5, 6, 7, 8, 9, 10, 11, 12, 13, 14] (by decide) rfl
            exact ct_ret0 hx hb hr rfl hlocks hP hK hD hS (fun h => c_5 h.2.2.2) rfl dM_step_32
        · exact (absurd c_4 (by decide))
      · have hP : va_P (dC, dI) cls (wM ad cA a dv ib ac hs ht (nI c0) hn rv ra dc nw Tm Ac ts gt lt) H := hP
        have hD : va_D A (wM ad cA a dv ib ac hs ht (nI c0) hn rv ra dc nw Tm Ac ts gt lt) := hD
        refine lv_if_ne (tgt := 23) hx hb dM_step_18 (by decide) (fun c_6 => ?_) (fun c_6 => ?_)
        · exact absurd rfl c_6
        · refine lv_iconst (v := 0) hx hb dM_step_21 (by decide) ?_
          exact ct_ret0 hx hb hr rfl hlocks hP hK hD hS (fun h => c_3 h.2.2.1) rfl dM_step_22

set_option maxHeartbeats 4000000 in
set_option maxRecDepth 100000 in
/-- liquor -/
theorem cM_liquor (l : Launch) (dC : Nat → ClassId) (dI : Nat → Nat → Nat) (tt : Nat → Nat) (sz : Nat) (ad : Nat → Nat) (cA : Nat → ClassId) (a : Nat → UInt64) (dv : Nat → Nat → UInt64) (ib : Nat → Int32) (ac : Nat → UInt64) (hs : Nat → Int32) (ht : Nat → UInt64) (hc hn : Int32) (rv : Nat → UInt64) (ra : UInt64) (dc nw : Int32) (Tm Ac ts : UInt64) (gt lt : Int32) (li d ac9 : UInt64) (hnl : nNo li) (hnc : nNo ac9) (hok : lqOK li d ac9 → okM Tm (a 0) d li ∧ okM Ac (a 0) ac9 li) : Ct l dC dI tt yM_liquor bM_liquor 10 (some .boolean) ({ frames := 1, cells := 0, slots := 0, locals := 29 }) (tM cA) [.ref (ad 0), .double li, .double d, .double ac9] (wM ad cA a dv ib ac hs ht hc hn rv ra dc nw Tm Ac ts gt lt) sz (fun A => ctQc dC dI (tM cA) (lqOK li d ac9) 1 (wM ad cA (vf_upd a 0 (FP.dadd (a 0) li)) dv ib ac hs ht hc hn rv ra dc nw (mixD Tm (a 0) d li) (mixD Ac (a 0) ac9 li) ts gt 1) 0 (wM ad cA a dv ib ac hs ht hc hn rv ra dc nw Tm Ac ts gt lt) A) := by
  refine ct_of (by decide) (Nat.le_of_ble_eq_true rfl) ?_
  intro p e s m below meth c A ls hx hb hr hts hown hml hlocks hnm hA hS hP hK hD hT hl
  have hl : lv_has ls 10 [(0, .ref (ad 0)), (1, .double li), (3, .double d), (5, .double ac9)] := hl
  refine lv_dload_n hx hb dM_liquor_0 rfl (lv_at hl 1 rfl) ?_
  refine lv_dconst0 hx hb dM_liquor_1 ?_
  refine ct_topd (y := 0) rfl ?_
  refine lv_dcmp hx hb dM_liquor_2 ?_
  refine lv_if_le (tgt := 43) hx hb dM_liquor_3 (by decide) (fun c_1 => ?_) (fun c_1 => ?_)
  · refine lv_iconst (v := 0) hx hb dM_liquor_43 (by decide) ?_
    refine lv_istore (lv' := [(7, .int 0), (0, .ref (ad 0)), (1, .double li), (3, .double d), (5, .double ac9)]) hx hb dM_liquor_44 hl (by decide) rfl (fun ls hl => ?_)
    refine lv_iload hx hb dM_liquor_46 (lv_at hl 0 rfl) ?_
    refine lv_if_ne (tgt := 53) hx hb dM_liquor_48 (by decide) (fun c_2 => ?_) (fun c_2 => ?_)
    · exact absurd rfl c_2
    · refine lv_iconst (v := 0) hx hb dM_liquor_51 (by decide) ?_
      exact ct_ret0 hx hb hr rfl hlocks hP hK hD hS (fun h => (cv_l_le _).mp c_1 h.1) rfl dM_liquor_52
  · have h_li0 := (Classical.not_not.mp fun h => c_1 ((cv_l_le _).mpr h) : FP.dcmp li 0 = some .gt)
    refine lv_dload_n hx hb dM_liquor_6 rfl (lv_at hl 1 rfl) ?_
    refine lv_ldc2d hx hb hown (hts _ tw_d_M_60) dM_liquor_7 ?_
    refine lv_dcmp hx hb dM_liquor_10 ?_
    refine lv_if_gt (tgt := 43) hx hb dM_liquor_11 (by decide) (fun c_3 => ?_) (fun c_3 => ?_)
    · refine lv_iconst (v := 0) hx hb dM_liquor_43 (by decide) ?_
      refine lv_istore (lv' := [(7, .int 0), (0, .ref (ad 0)), (1, .double li), (3, .double d), (5, .double ac9)]) hx hb dM_liquor_44 hl (by decide) rfl (fun ls hl => ?_)
      refine lv_iload hx hb dM_liquor_46 (lv_at hl 0 rfl) ?_
      refine lv_if_ne (tgt := 53) hx hb dM_liquor_48 (by decide) (fun c_4 => ?_) (fun c_4 => ?_)
      · exact absurd rfl c_4
      · refine lv_iconst (v := 0) hx hb dM_liquor_51 (by decide) ?_
        exact ct_ret0 hx hb hr rfl hlocks hP hK hD hS (fun h => h.2.1 ((cvn_g (hnl _ (by decide))).mp c_3)) rfl dM_liquor_52
    · have h_li1 := (fun h => c_3 ((cvn_g (hnl _ (by decide))).mpr h) : ¬ FP.dcmp li 4666723172467343360 = some .gt)
      refine lv_dload_n hx hb dM_liquor_14 rfl (lv_at hl 2 rfl) ?_
      refine ct_csc (As := [.double d]) (rest := []) (wr := (wM ad cA a dv ib ac hs ht hc hn rv ra dc nw Tm Ac ts gt lt)) ⟨hx, hb, hml, hown, hts⟩ (cM_isTemperature l dC dI tt _ d) (gT_S tw_m_M_62 tw_st_yM_isTemperature tw_I_M tw_c_yM_isTemperature) ⟨by decide +kernel, by decide +kernel, (by decide +kernel : (parseMethodDescriptor yM_isTemperature.desc).map (fun d => d.parameters.length) = some 1)⟩ ⟨by decide, by decide⟩ hP hD hK hS hA hT [0, 1, 2, 3, 4, 5, 6, 7, 8, 9, 10, 11, 12, 13, 14, 15, 16, 17] rfl (by decide) hl.1 rfl (Nat.le_of_ble_eq_true rfl) dM_liquor_15 ⟨by decide, by decide⟩ (fun c_5 H locs hP hD hS => ?_) (fun c_5 H locs hP hD hS => ?_)
      · have hP : va_P (dC, dI) cls (wM ad cA a dv ib ac hs ht hc hn rv ra dc nw Tm Ac ts gt lt) H := hP
        have hD : va_D A (wM ad cA a dv ib ac hs ht hc hn rv ra dc nw Tm Ac ts gt lt) := hD
        refine lv_if_eq (tgt := 43) hx hb dM_liquor_18 (by decide) (fun c_6 => ?_) (fun c_6 => ?_)
        · exact (absurd c_6 (by decide))
        · have h_d := c_5
          refine lv_dload hx hb dM_liquor_21 (lv_at hl 3 rfl) ?_
          refine lv_ldc2d hx hb hown (hts _ tw_d_M_66) dM_liquor_23 ?_
          refine lv_dcmp hx hb dM_liquor_26 ?_
          refine lv_if_lt (tgt := 43) hx hb dM_liquor_27 (by decide) (fun c_7 => ?_) (fun c_7 => ?_)
          · refine lv_iconst (v := 0) hx hb dM_liquor_43 (by decide) ?_
            refine lv_istore (lv' := [(7, .int 0), (0, .ref (ad 0)), (1, .double li), (3, .double d), (5, .double ac9)]) hx hb dM_liquor_44 hl (by decide) rfl (fun ls hl => ?_)
            refine lv_iload hx hb dM_liquor_46 (lv_at hl 0 rfl) ?_
            refine lv_if_ne (tgt := 53) hx hb dM_liquor_48 (by decide) (fun c_8 => ?_) (fun c_8 => ?_)
            · exact absurd rfl c_8
            · refine lv_iconst (v := 0) hx hb dM_liquor_51 (by decide) ?_
              exact ct_ret0 hx hb hr rfl hlocks hP hK hD hS (fun h => h.2.2.2.1 ((cvn_l (hnc _ (by decide))).mp c_7)) rfl dM_liquor_52
          · have h_a1 := (fun h => c_7 ((cvn_l (hnc _ (by decide))).mpr h) : ¬ FP.dcmp ac9 4613937818241073152 = some .lt)
            refine lv_dload hx hb dM_liquor_30 (lv_at hl 3 rfl) ?_
            refine lv_ldc2d hx hb hown (hts _ tw_d_M_54) dM_liquor_32 ?_
            refine lv_dcmp hx hb dM_liquor_35 ?_
            refine lv_if_gt (tgt := 43) hx hb dM_liquor_36 (by decide) (fun c_9 => ?_) (fun c_9 => ?_)
            · refine lv_iconst (v := 0) hx hb dM_liquor_43 (by decide) ?_
              refine lv_istore (lv' := [(7, .int 0), (0, .ref (ad 0)), (1, .double li), (3, .double d), (5, .double ac9)]) hx hb dM_liquor_44 hl (by decide) rfl (fun ls hl => ?_)
              refine lv_iload hx hb dM_liquor_46 (lv_at hl 0 rfl) ?_
              refine lv_if_ne (tgt := 53) hx hb dM_liquor_48 (by decide) (fun c_10 => ?_) (fun c_10 => ?_)
              · exact absurd rfl c_10
              · refine lv_iconst (v := 0) hx hb dM_liquor_51 (by decide) ?_
                exact ct_ret0 hx hb hr rfl hlocks hP hK hD hS (fun h => h.2.2.2.2 ((cvn_g (hnc _ (by decide))).mp c_9)) rfl dM_liquor_52
            · have h_a2 := (fun h => c_9 ((cvn_g (hnc _ (by decide))).mpr h) : ¬ FP.dcmp ac9 4620693217682128896 = some .gt)
              refine lv_iconst (v := 1) hx hb dM_liquor_39 (by decide) ?_
              refine lv_goto (tgt := 44) hx hb dM_liquor_40 (by decide) ?_
              refine lv_istore (lv' := [(7, .int 1), (0, .ref (ad 0)), (1, .double li), (3, .double d), (5, .double ac9)]) hx hb dM_liquor_44 hl (by decide) rfl (fun ls hl => ?_)
              refine lv_iload hx hb dM_liquor_46 (lv_at hl 0 rfl) ?_
              refine lv_if_ne (tgt := 53) hx hb dM_liquor_48 (by decide) (fun c_11 => ?_) (fun c_11 => ?_)
              · have hlq : lqOK li d ac9 := ⟨h_li0, h_li1, h_d, h_a1, h_a2⟩
                have hok9 := hok hlq
                refine lv_aload_n hx hb dM_liquor_53 rfl (lv_at hl 1 rfl) ?_
                refine va_get (D := (dC, dI)) (ci := 0) (v := .ref (ad 1)) (C := "MashEnzymes") (T := F_M) (N := 13) hx hb hts in_M hown hK hP 0 rfl rfl 0 (by decide) (hts _ tw_f_M_9) (fun _ h9 => h9) rfl dM_liquor_54 ?_
                refine lv_iconst (v := 0) hx hb dM_liquor_57 (by decide) ?_
                refine ct_dald (k := 0) (v := a 0) hx hb hK hP 1 0 rfl rfl (by unfold vp_in; decide) (rfl) (rfl) dM_liquor_58 ?_
                refine lv_dstore (lv' := [(8, .double (a 0)), (7, .int 1), (0, .ref (ad 0)), (1, .double li), (3, .double d), (5, .double ac9)]) hx hb dM_liquor_59 hl (by decide) rfl (fun ls hl => ?_)
                refine lv_aload_n hx hb dM_liquor_61 rfl (lv_at hl 2 rfl) ?_
                refine lv_aload_n hx hb dM_liquor_62 rfl (lv_at hl 2 rfl) ?_
                refine va_get (D := (dC, dI)) (ci := 0) (v := .double Tm) (C := "MashEnzymes") (T := F_M) (N := 13) hx hb hts in_M hown hK hP 0 rfl rfl 8 (by decide) (hts _ tw_f_M_68) (fun _ h9 => h9) rfl dM_liquor_63 ?_
                refine lv_dload hx hb dM_liquor_66 (lv_at hl 0 rfl) ?_
                refine lv_dload_n hx hb dM_liquor_68 rfl (lv_at hl 4 rfl) ?_
                refine lv_dload_n hx hb dM_liquor_69 rfl (lv_at hl 3 rfl) ?_
                refine ct_csd (As := [.double Tm, .double (a 0), .double d, .double li]) (rest := [.ref (ad 0)]) (wr := (wM ad cA a dv ib ac hs ht hc hn rv ra dc nw Tm Ac ts gt lt)) ⟨hx, hb, hml, hown, hts⟩ (cM_mixed l dC dI tt _ Tm (a 0) d li hok9.1) (gT_S tw_m_M_71 tw_st_yM_mixed tw_I_M tw_c_yM_mixed) ⟨by decide +kernel, by decide +kernel, (by decide +kernel : (parseMethodDescriptor yM_mixed.desc).map (fun d => d.parameters.length) = some 4)⟩ ⟨by decide, by decide⟩ hP hD hK hS hA hT [0, 1, 2, 3, 4, 5, 6, 7, 8, 9, 10, 11, 12, 13, 14, 15, 16, 17] rfl (by decide) hl.1 rfl (Nat.le_of_ble_eq_true rfl) dM_liquor_70 ⟨by decide, by decide⟩ (fun H locs hP hD hS => ?_)
                refine va_put (D := (dC, dI)) (ci := 0) (v := .double (mixD Tm (a 0) d li)) (ty := .double) (C := "MashEnzymes") (T := F_M) (N := 13) hx hb hts in_M t_M t_M_ok n_M hown hK hP hD hS 0 rfl rfl 8 (by decide) (hts _ tw_f_M_68) (fun _ h9 => h9) rfl (by decide +kernel) rfl rfl (Nat.le_of_ble_eq_true rfl) dM_liquor_73 (fun H locs hP hD hS => ?_)
                have hP : va_P (dC, dI) cls (wM ad cA a dv ib ac hs ht hc hn rv ra dc nw (mixD Tm (a 0) d li) Ac ts gt lt) H := hP
                have hD : va_D A (wM ad cA a dv ib ac hs ht hc hn rv ra dc nw (mixD Tm (a 0) d li) Ac ts gt lt) := hD
                refine lv_aload_n hx hb dM_liquor_76 rfl (lv_at hl 2 rfl) ?_
                refine lv_aload_n hx hb dM_liquor_77 rfl (lv_at hl 2 rfl) ?_
                refine va_get (D := (dC, dI)) (ci := 0) (v := .double Ac) (C := "MashEnzymes") (T := F_M) (N := 13) hx hb hts in_M hown hK hP 0 rfl rfl 9 (by decide) (hts _ tw_f_M_75) (fun _ h9 => h9) rfl dM_liquor_78 ?_
                refine lv_dload hx hb dM_liquor_81 (lv_at hl 0 rfl) ?_
                refine lv_dload hx hb dM_liquor_83 (lv_at hl 5 rfl) ?_
                refine lv_dload_n hx hb dM_liquor_85 rfl (lv_at hl 3 rfl) ?_
                refine ct_csd (As := [.double Ac, .double (a 0), .double ac9, .double li]) (rest := [.ref (ad 0)]) (wr := (wM ad cA a dv ib ac hs ht hc hn rv ra dc nw (mixD Tm (a 0) d li) Ac ts gt lt)) ⟨hx, hb, hml, hown, hts⟩ (cM_mixed l dC dI tt _ Ac (a 0) ac9 li hok9.2) (gT_S tw_m_M_71 tw_st_yM_mixed tw_I_M tw_c_yM_mixed) ⟨by decide +kernel, by decide +kernel, (by decide +kernel : (parseMethodDescriptor yM_mixed.desc).map (fun d => d.parameters.length) = some 4)⟩ ⟨by decide, by decide⟩ hP hD hK hS hA hT [0, 1, 2, 3, 4, 5, 6, 7, 8, 9, 10, 11, 12, 13, 14, 15, 16, 17] rfl (by decide) hl.1 rfl (Nat.le_of_ble_eq_true rfl) dM_liquor_86 ⟨by decide, by decide⟩ (fun H locs hP hD hS => ?_)
                refine va_put (D := (dC, dI)) (ci := 0) (v := .double (mixD Ac (a 0) ac9 li)) (ty := .double) (C := "MashEnzymes") (T := F_M) (N := 13) hx hb hts in_M t_M t_M_ok n_M hown hK hP hD hS 0 rfl rfl 9 (by decide) (hts _ tw_f_M_75) (fun _ h9 => h9) rfl (by decide +kernel) rfl rfl (Nat.le_of_ble_eq_true rfl) dM_liquor_89 (fun H locs hP hD hS => ?_)
                have hP : va_P (dC, dI) cls (wM ad cA a dv ib ac hs ht hc hn rv ra dc nw (mixD Tm (a 0) d li) (mixD Ac (a 0) ac9 li) ts gt lt) H := hP
                have hD : va_D A (wM ad cA a dv ib ac hs ht hc hn rv ra dc nw (mixD Tm (a 0) d li) (mixD Ac (a 0) ac9 li) ts gt lt) := hD
                refine lv_aload_n hx hb dM_liquor_92 rfl (lv_at hl 2 rfl) ?_
                refine va_get (D := (dC, dI)) (ci := 0) (v := .ref (ad 1)) (C := "MashEnzymes") (T := F_M) (N := 13) hx hb hts in_M hown hK hP 0 rfl rfl 0 (by decide) (hts _ tw_f_M_9) (fun _ h9 => h9) rfl dM_liquor_93 ?_
                refine lv_iconst (v := 0) hx hb dM_liquor_96 (by decide) ?_
                refine lv_dload hx hb dM_liquor_97 (lv_at hl 0 rfl) ?_
                refine lv_dload_n hx hb dM_liquor_99 rfl (lv_at hl 3 rfl) ?_
                refine lv_dadd hx hb dM_liquor_100 (hok9.1.1) ?_
                refine ct_dast (k := 0) (w1 := (wM ad cA (vf_upd a 0 (FP.dadd (a 0) li)) dv ib ac hs ht hc hn rv ra dc nw (mixD Tm (a 0) d li) (mixD Ac (a 0) ac9 li) ts gt lt)) hx hb hK hP hD hS 1 0 rfl rfl (by unfold vp_in; decide) (rfl) (rfl) dM_liquor_101 (fun H locs hP hD hS => ?_)
                refine lv_aload_n hx hb dM_liquor_102 rfl (lv_at hl 2 rfl) ?_
                refine lv_iconst (v := 1) hx hb dM_liquor_103 (by decide) ?_
                refine va_put (D := (dC, dI)) (ci := 0) (v := .int 1) (ty := .boolean) (C := "MashEnzymes") (T := F_M) (N := 13) hx hb hts in_M t_M t_M_ok n_M hown hK hP hD hS 0 rfl rfl 12 (by decide) (hts _ tw_f_M_78) (fun _ h9 => h9) rfl (by decide +kernel) rfl rfl (Nat.le_of_ble_eq_true rfl) dM_liquor_104 (fun H locs hP hD hS => ?_)
                have hP : va_P (dC, dI) cls (wM ad cA (vf_upd a 0 (FP.dadd (a 0) li)) dv ib ac hs ht hc hn rv ra dc nw (mixD Tm (a 0) d li) (mixD Ac (a 0) ac9 li) ts gt 1) H := hP
                have hD : va_D A (wM ad cA (vf_upd a 0 (FP.dadd (a 0) li)) dv ib ac hs ht hc hn rv ra dc nw (mixD Tm (a 0) d li) (mixD Ac (a 0) ac9 li) ts gt 1) := hD
                refine lv_iconst (v := 1) hx hb dM_liquor_107 (by decide) ?_
                exact ct_ret1 hx hb hr rfl hlocks hP hK hD hS hlq rfl dM_liquor_108
              · exact (absurd c_11 (by decide))
      · have hP : va_P (dC, dI) cls (wM ad cA a dv ib ac hs ht hc hn rv ra dc nw Tm Ac ts gt lt) H := hP
        have hD : va_D A (wM ad cA a dv ib ac hs ht hc hn rv ra dc nw Tm Ac ts gt lt) := hD
        refine lv_if_eq (tgt := 43) hx hb dM_liquor_18 (by decide) (fun c_12 => ?_) (fun c_12 => ?_)
        · refine lv_iconst (v := 0) hx hb dM_liquor_43 (by decide) ?_
          refine lv_istore (lv' := [(7, .int 0), (0, .ref (ad 0)), (1, .double li), (3, .double d), (5, .double ac9)]) hx hb dM_liquor_44 hl (by decide) rfl (fun ls hl => ?_)
          refine lv_iload hx hb dM_liquor_46 (lv_at hl 0 rfl) ?_
          refine lv_if_ne (tgt := 53) hx hb dM_liquor_48 (by decide) (fun c_13 => ?_) (fun c_13 => ?_)
          · exact absurd rfl c_13
          · refine lv_iconst (v := 0) hx hb dM_liquor_51 (by decide) ?_
            exact ct_ret0 hx hb hr rfl hlocks hP hK hD hS (fun h => c_5 h.2.2.1) rfl dM_liquor_52
        · exact absurd rfl c_12

