/-! the given tables, the worlds, one form of contract for all methods -/
def tb_GP (j : Nat) : Nat := [2, 1, 3].getD j 0
def tb_GE (j : Nat) : Nat := [8, 6, 2, 4, 0, 0, 0, 0, 4, 3, 1, 2].getD j 0
def tb_MD (j : Nat) : Nat := [0, 40, 50, 60, 65, 70, 75, 80, 90].getD j 0
def tb_TB (j : Nat) : Nat := [0, 1, 2, 4, 6, 8, 7, 4, 0, 0, 2, 4, 8, 7, 3, 1, 0, 0, 0, 2, 6, 8, 4, 1, 0, 0, 0, 0, 4, 8, 6, 3, 1, 0, 0, 0, 0, 0, 0, 0, 1, 4, 16, 64, 255, 0, 0, 0, 4, 16, 64, 128, 200, 255, 0, 0, 1, 16, 64, 128, 200, 255, 255, 0, 0, 4, 32, 64, 128, 200, 255, 255, 0, 0, 2, 16, 64, 128, 160, 200, 255].getD j 0
def tb_RW (j : Nat) : Nat := [0, 1, 2, 4, 6, 8, 7, 4, 0, 0, 2, 4, 8, 7, 3, 1, 0, 0, 0, 2, 6, 8, 4, 1, 0, 0, 0, 0, 4, 8, 6, 3, 1, 0, 0, 0, 0, 0, 2, 16, 64, 128, 160, 200, 255, 0, 0, 0, 0, 1, 4, 16, 64, 255, 0, 0, 0, 4, 16, 64, 128, 200, 255, 0, 0, 1, 16, 64, 128, 200, 255, 255, 0, 0, 4, 32, 64, 128, 200, 255, 255].getD j 0
/-- a table, given at the start -/
def sT1 (C n : String) (t N : Nat) (f : Nat → Nat) (A : Nat → Prop) (U : State) (H : Heap) : Prop := va_Z C n "[I" (.ref t) A U H ∧ va_T .int t N (fun j => .int (nI (f j))) A U H
def sT (tt : Nat → Nat) (A : Nat → Prop) (U : State) (H : Heap) : Prop :=
  sT1 "MashEnzymes" "GRAIN_PROTEIN" (tt 0) 3 tb_GP A U H ∧ sT1 "MashEnzymes" "GRAIN_ENZYMES" (tt 1) 12 tb_GE A U H ∧ sT1 "MashEnzymes$Rows" "MARK_DEGREES" (tt 2) 9 tb_MD A U H ∧ sT1 "MashEnzymes$Rows" "TABLE" (tt 3) 81 tb_TB A U H ∧ sT1 "MashEnzymesModel" "AT" (tt 4) 9 tb_MD A U H ∧ sT1 "MashEnzymesModel" "ROWS" (tt 5) 81 tb_RW A U H
theorem sT1.to {C n : String} {t N : Nat} {f : Nat → Nat} {A B : Nat → Prop} {u U : State} {H H1 : Heap} (h : sT1 C n t N f A u H) (hvm : u.vm.Alike U.vm) (hq : ∀ a : Nat, a < H.size → ¬ A a → H1[a]? = H[a]?) (hAB : ∀ q, B q → A q) : sT1 C n t N f B U H1 :=
  ⟨((h.1.kept hq).moved hvm).narrow hAB, ((h.2.kept hq).moved hvm).narrow hAB⟩
theorem sT.to {tt : Nat → Nat} {A B : Nat → Prop} {u U : State} {H H1 : Heap} (h : sT tt A u H) (hvm : u.vm.Alike U.vm) (hq : ∀ a : Nat, a < H.size → ¬ A a → H1[a]? = H[a]?) (hAB : ∀ q, B q → A q) : sT tt B U H1 :=
  ⟨h.1.to hvm hq hAB, h.2.1.to hvm hq hAB, h.2.2.1.to hvm hq hAB, h.2.2.2.1.to hvm hq hAB, h.2.2.2.2.1.to hvm hq hAB, h.2.2.2.2.2.to hvm hq hAB⟩
/-- the rows' cells, the heating's, the whole mash's, the reference's -/
abbrev wQ (q0 q1 : Nat) (c : ClassId) (rv : Nat → UInt64) (ra : UInt64) : va_W := [(q0, .inr (2, [.ref q1, .double ra])), (q1, .inl (c, 9, .inr (.inr (.inr (.inl rv)))))]
abbrev tQ (c : ClassId) : List (ClassId × FieldType) := [(c, .double)]
abbrev wH (h0 h1 h2 : Nat) (c1 c2 : ClassId) (hs : Nat → Int32) (ht : Nat → UInt64) (hc hn : Int32) : va_W := [(h0, .inr (1, [.ref h1, .ref h2, .int hc, .int hn])), (h1, .inl (c1, 32, .inl hs)), (h2, .inl (c2, 32, .inr (.inr (.inr (.inl ht)))))]
abbrev tH (c1 c2 : ClassId) : List (ClassId × FieldType) := [(c1, .int), (c2, .double)]
abbrev wM (ad : Nat → Nat) (cA : Nat → ClassId) (a : Nat → UInt64) (dv : Nat → Nat → UInt64) (ib : Nat → Int32) (ac : Nat → UInt64) (hs : Nat → Int32) (ht : Nat → UInt64) (hc hn : Int32) (rv : Nat → UInt64) (ra : UInt64) (dc nw : Int32) (T A ts : UInt64) (g l : Int32) : va_W := [
  (ad 0, .inr (0, [.ref (ad 1), .ref (ad 2), .ref (ad 3), .ref (ad 4), .ref (ad 5), .ref (ad 8), .int dc, .int nw, .double T, .double A, .double ts, .int g, .int l])),
  (ad 1, .inl (cA 0, 13, .inr (.inr (.inr (.inl a))))),
  (ad 2, .inl (cA 1, 8, .inr (.inr (.inr (.inr (fun i => if i < 8 then some (ad (i + 10)) else none)))))),
  (ad 3, .inl (cA 2, 8, .inl ib)),
  (ad 4, .inl (cA 3, 4, .inr (.inr (.inr (.inl ac))))),
  (ad 5, .inr (1, [.ref (ad 6), .ref (ad 7), .int hc, .int hn])),
  (ad 6, .inl (cA 4, 32, .inl hs)),
  (ad 7, .inl (cA 5, 32, .inr (.inr (.inr (.inl ht))))),
  (ad 8, .inr (2, [.ref (ad 9), .double ra])),
  (ad 9, .inl (cA 6, 9, .inr (.inr (.inr (.inl rv))))),
  (ad 10, .inl (cA 7, 13, .inr (.inr (.inr (.inl (dv 0)))))),
  (ad 11, .inl (cA 7, 13, .inr (.inr (.inr (.inl (dv 1)))))),
  (ad 12, .inl (cA 7, 13, .inr (.inr (.inr (.inl (dv 2)))))),
  (ad 13, .inl (cA 7, 13, .inr (.inr (.inr (.inl (dv 3)))))),
  (ad 14, .inl (cA 7, 13, .inr (.inr (.inr (.inl (dv 4)))))),
  (ad 15, .inl (cA 7, 13, .inr (.inr (.inr (.inl (dv 5)))))),
  (ad 16, .inl (cA 7, 13, .inr (.inr (.inr (.inl (dv 6)))))),
  (ad 17, .inl (cA 7, 13, .inr (.inr (.inr (.inl (dv 7))))))]
abbrev tM (cA : Nat → ClassId) : List (ClassId × FieldType) := [(cA 0, .double), (cA 1, .array .double), (cA 2, .boolean), (cA 3, .double), (cA 4, .int), (cA 5, .double), (cA 6, .double), (cA 7, .double)]
abbrev wN (ad : Nat → Nat) (cA : Nat → ClassId) (a : Nat → UInt64) (T A : UInt64) (g l : Int32) (ts : UInt64) (nw st : Int32) (hs : Nat → Int32) (ht : Nat → UInt64) (dc : Int32) (pa : Nat → UInt64) (ib : Nat → Int32) (ac : Nat → UInt64) : va_W := [
  (ad 0, .inr (3, [.ref (ad 1), .double T, .double A, .int g, .int l, .double ts, .int nw, .int st, .ref (ad 2), .ref (ad 3), .int dc, .ref (ad 4), .ref (ad 5), .ref (ad 6)])),
  (ad 1, .inl (cA 0, 13, .inr (.inr (.inr (.inl a))))),
  (ad 2, .inl (cA 1, 32, .inl hs)),
  (ad 3, .inl (cA 2, 32, .inr (.inr (.inr (.inl ht))))),
  (ad 4, .inl (cA 3, 104, .inr (.inr (.inr (.inl pa))))),
  (ad 5, .inl (cA 4, 8, .inl ib)),
  (ad 6, .inl (cA 5, 4, .inr (.inr (.inr (.inl ac)))))]
abbrev tN (cA : Nat → ClassId) : List (ClassId × FieldType) := [(cA 0, .double), (cA 1, .int), (cA 2, .double), (cA 3, .double), (cA 4, .boolean), (cA 5, .double)]
/-- what a method finds -/
def ctP (dC : Nat → ClassId) (dI : Nat → Nat → Nat) (tt : Nat → Nat) (tys : List (ClassId × FieldType)) (w : va_W) (sz : Nat) (U : State) : Prop := U.heap.size = sz ∧ va_P (dC, dI) cls w U.heap ∧ va_K (dC, dI) cls tys U ∧ va_D (fun _ => True) w ∧ sT tt (va_A w sz) U U.heap
/-- what it leaves -/
def ctB (dC : Nat → ClassId) (dI : Nat → Nat → Nat) (tys : List (ClassId × FieldType)) (w : va_W) (A : Nat → Prop) (t : State) : Prop := va_P (dC, dI) cls w t.heap ∧ va_K (dC, dI) cls tys t ∧ va_D A w
abbrev ctQv (dC : Nat → ClassId) (dI : Nat → Nat → Nat) (tys : List (ClassId × FieldType)) (w : va_W) (A : Nat → Prop) := va_Qv (fun _ : Unit => True) (fun _ t => ctB dC dI tys w A t) A
abbrev ctQd (dC : Nat → ClassId) (dI : Nat → Nat → Nat) (tys : List (ClassId × FieldType)) (r : UInt64) (w : va_W) (A : Nat → Prop) := va_Qd (fun x (_ : Unit) => x = r) (fun _ t => ctB dC dI tys w A t) A
abbrev ctQi (dC : Nat → ClassId) (dI : Nat → Nat → Nat) (tys : List (ClassId × FieldType)) (r : Int32) (w : va_W) (A : Nat → Prop) := va_Qi (fun x (_ : Unit) => x = r) (fun _ t => ctB dC dI tys w A t) A
/-- a method's contract: over the words wT, at launch l -/
def Ct (l : Launch) (dC : Nat → ClassId) (dI : Nat → Nat → Nat) (tt : Nat → Nat) (y : MethodName) (b : ByteArray) (n : Nat) (ret : Option FieldType) (rm : Room) (tys : List (ClassId × FieldType)) (av : List Value) (w : va_W) (sz : Nat) (Qc : (Nat → Prop) → Array Value → State → Outcome → State → Prop) : Prop :=
  Met l y (.code y b n ret :: wT) rm (va_Pc av (ctP dC dI tt tys w sz)) (Qc (va_A w sz)) rm.cells rm.slots (va_A w sz)
theorem ct_of {l : Launch} {dC : Nat → ClassId} {dI : Nat → Nat → Nat} {tt : Nat → Nat} {y : MethodName} {b : ByteArray} {n : Nat} {ret : Option FieldType} {rm : Room} {tys : List (ClassId × FieldType)} {av : List Value} {w : va_W} {sz : Nat} {Qc : (Nat → Prop) → Array Value → State → Outcome → State → Prop}
    (hy : plainName y.cls = true) (hlen : (lg_sl av).length ≤ n)
    (body : ∀ (p : Program) (e : Env) (s : State) (m : MethodId) (below : List Frame) (meth : Method) (c : Code) (A : Nat → Prop) (ls : Array Slot), p.tables.exec = Jvm.exec → c.code = b → meth.sig.returnType = ret → (∀ x ∈ wT, x.before av.toArray s = true) → s.vm.findClass y.cls = some m.cls → c.maxLocals = n → meth.locks = false → meth.name = y.name → (∀ q : Nat, s.heap.size ≤ q → A q) → va_S A s.heap s.heap [] → va_P (dC, dI) cls w s.heap → va_K (dC, dI) cls tys s → va_D A w → sT tt A s s.heap → lv_has ls n (lv_args 0 av) →
      W p l e rm s m av.toArray below meth c s.heap [] 0 0 (MQ below (Qc A) av.toArray s rm.cells rm.slots A) (F0 m 0 ls [])) : Ct l dC dI tt y b n ret rm tys av w sz Qc := by
  refine Met.ofW (cc := b) (maxL := n) (ret := ret) hy rfl ?_
  intro p e s m args below meth c s₁ B hml hv
  obtain ⟨rfl, hsz, hP, hK, hD0, hT⟩ := hv
  have hts := atoms_spec (ws := .code y b n ret :: wT) B.pre
  have hown : s.vm.findClass y.cls = some m.cls := findClass_of_methodNamed B.named
  have hin : meth.name = y.name := (name_of_methodNamed B.named B.method).1
  subst hsz
  have hD := hD0.self (sz := s.heap.size)
  have hA : ∀ q : Nat, s.heap.size ≤ q → va_A w s.heap.size q := fun q h => Or.inr h
  have hl := lv_entry av (n := n) hlen
  rw [lg_entry_eq]
  exact body p e s m below meth c (va_A w s.heap.size) _ B.exec B.bytes B.returns (fun x hx => hts x (List.mem_cons_of_mem _ hx)) hown hml B.notSynchronized hin hA va_S.rf hP hK hD hT hl
section CT
variable {p : Program} {l : Launch} {e : Env} {R : Room} {s : State} {m : MethodId} {args : Array Value} {below : List Frame} {meth : Method} {c : Code} {H : Heap} {locs : List Loc} {cells slots : Nat} {Q : State → Prop}
variable {cc : ByteArray} {pc nL : Nat} {ls : Array Slot} {rest As : List Value} {dC : Nat → ClassId} {dI : Nat → Nat → Nat} {tt : Nat → Nat} {A : Nat → Prop} {tys tysc : List (ClassId × FieldType)} {ws wc wr w1 : va_W}
variable {own C : String} {index : Nat} {y : MethodName} {b : ByteArray} {n : Nat} {ret : Option FieldType} {rm : Room} {h : Nat}
/-- a method's end -/
theorem ct_vret (hexec : p.tables.exec = Jvm.exec) (hb : c.code = cc) (hr : meth.sig.returnType = none) (hlocks : meth.locks = false) (hP : va_P (dC, dI) cls ws H) (hK : va_K (dC, dI) cls tys s) (hD : va_D A ws) (hS : va_S A s.heap H locs) (hdg : decode cc pc = .ok (.return_, 1)) :
    W p l e R s m args below meth c H locs cells slots (MQ below (ctQv dC dI tys ws A) args s cells slots A) (F0 m pc ls []) :=
  W.vret hexec hb hr (fun t ht hW => ⟨⟨(), rfl, trivial, by rw [ht]; exact hP, va_K.moved hW.alike hK, hD⟩, hS.F ht⟩) hS.2.2 hdg hlocks
theorem ct_dret {v r : UInt64} (hexec : p.tables.exec = Jvm.exec) (hb : c.code = cc) (hr : meth.sig.returnType = some .double) (hlocks : meth.locks = false) (hP : va_P (dC, dI) cls ws H) (hK : va_K (dC, dI) cls tys s) (hD : va_D A ws) (hS : va_S A s.heap H locs) (hv : v = r) (hdg : decode cc pc = .ok (.dreturn, 1)) :
    W p l e R s m args below meth c H locs cells slots (MQ below (ctQd dC dI tys r ws A) args s cells slots A) (F0 m pc ls [.double v]) :=
  W.dret hexec hb hr (fun t ht hW => ⟨⟨v, (), rfl, hv, by rw [ht]; exact hP, va_K.moved hW.alike hK, hD⟩, hS.F ht⟩) hS.2.2 hdg hlocks
theorem ct_iret {v r : Int32} {ty : FieldType} (hexec : p.tables.exec = Jvm.exec) (hb : c.code = cc) (hr : meth.sig.returnType = some ty) (hn : narrow ty (.int v) = .int v) (hlocks : meth.locks = false) (hP : va_P (dC, dI) cls ws H) (hK : va_K (dC, dI) cls tys s) (hD : va_D A ws) (hS : va_S A s.heap H locs) (hv : v = r) (hdg : decode cc pc = .ok (.ireturn, 1)) :
    W p l e R s m args below meth c H locs cells slots (MQ below (ctQi dC dI tys r ws A) args s cells slots A) (F0 m pc ls [.int v]) :=
  W.zret hexec hb hr hn (fun t ht hW => ⟨⟨v, (), rfl, hv, by rw [ht]; exact hP, va_K.moved hW.alike hK, hD⟩, hS.F ht⟩) hS.2.2 hdg hlocks
theorem ct_blind {w : va_W} {sz : Nat} {av : List Value} : FrameBlind (va_Pc av (ctP dC dI tt tys w sz)) := fun a U g mk q => by
  obtain ⟨q0, q1, qP, qK, qD, qT⟩ := q
  exact ⟨q0, q1, qP, va_K.moved (u := U) (U := U.calling g mk a) (Vm.Alike.refl U.vm) qK, qD, qT.to (U := U.calling g mk a) (Vm.Alike.refl U.vm) (fun _ _ _ => rfl) (fun _ h => h)⟩
/-- what a callee finds at a call -/
theorem ct_pre {isC : List Nat} {tyi : List Nat} (hP : va_P (dC, dI) cls ws H) (hD : va_D A ws) (hK : va_K (dC, dI) cls tys s) (hS : va_S A s.heap H locs) (hA : ∀ q : Nat, s.heap.size ≤ q → A q) (hT : sT tt A s s.heap) (hn : va_nd isC = true) (hC : isC.map (fun i => ws[i]?) = wc.map some) (hKc : tyi.filterMap (fun i => tys[i]?) = tysc) {av : List Value} (U : State) (hU : U.heap = H) (hW : s.WarmedH U.vm) : va_Pc av (ctP dC dI tt tysc wc H.size) av.toArray U := by
  have hF := va_free (wc := wc) hD hS hA isC hC
  have hPc : va_P (dC, dI) cls wc H := by
    intro k q hq
    have h1 : (isC.map (fun i => ws[i]?))[k]? = some (some q) := by rw [hC, List.getElem?_map, hq]; rfl
    rw [List.getElem?_map] at h1
    cases hi : isC[k]? with
    | none => rw [hi] at h1; cases h1
    | some i => rw [hi] at h1; exact hP i q (Option.some.inj h1)
  exact ⟨rfl, by rw [hU], by rw [hU]; exact hPc, va_K.moved hW.alike (hK.sub tyi hKc), (hD.sub isC hn hC).weaken (fun _ _ _ _ => trivial), by rw [hU]; exact hT.to hW.alike hS.2.1 hF⟩
theorem ct_recv {isC : List Nat} {ci : Nat} {q : vw_C} {fs : List Value} (hP : va_P (dC, dI) cls ws H) (hK : va_K (dC, dI) cls tys s) (hC : isC.map (fun i => ws[i]?) = wc.map some) (hc : cls[ci]? = some q) (hw : wc[0]? = some (h, .inr (ci, fs))) : ∃ cell : Cell, H[h]? = some cell ∧ cell.vm.isStatics = false ∧ s.vm.findClass q.1 = some cell.cls := by
  have h1 : (isC.map (fun i => ws[i]?))[0]? = some (some (h, .inr (ci, fs))) := by rw [hC, List.getElem?_map, hw]; rfl
  rw [List.getElem?_map] at h1
  cases hi : isC[0]? with
  | none => rw [hi] at h1; cases h1
  | some i => rw [hi] at h1; exact va_recv hK hP hc (Option.some.inj h1)
theorem ct_cvv (S : CallFix p m c cc nL s args wT own) (hM : Ct l dC dI tt y b n none rm tysc (.ref h :: As) wc H.size (fun A => ctQv dC dI tysc w1 A)) (gw : GoodIn wT (wsV own index C y (.code y b n none :: wT)))
    (hd : y.cls = C ∧ y.cls ≠ "java/lang/invoke/MethodHandle" ∧ y.cls ≠ "java/lang/invoke/VarHandle" ∧ (parseMethodDescriptor y.desc).map (fun d => d.parameters.length) = some As.length) (hR : rm.frames + 1 ≤ R.frames ∧ 8 + (n + 11) + rm.locals ≤ R.locals)
    {ci : Nat} {q : vw_C} {fs : List Value} (hc : cls[ci]? = some q) (hqC : q.1 = C) (hw : wc[0]? = some (h, .inr (ci, fs)))
    (hP : va_P (dC, dI) cls ws H) (hD : va_D A ws) (hK : va_K (dC, dI) cls tys s) (hS : va_S A s.heap H locs) (hA : ∀ q : Nat, s.heap.size ≤ q → A q) (hT : sT tt A s s.heap) (isC isR tyi : List Nat) (hn : va_nd isC = true) (hC : isC.map (fun i => ws[i]?) = wc.map some) (hRr : isR.map (fun i => ws[i]?) = wr.map some) (hnR : va_nd isR = true) (hdis : ∀ i ∈ isR, i ∉ isC) (hKc : tyi.filterMap (fun i => tys[i]?) = tysc)
    (hsize : ls.size = nL) {st : List Value} (hst : st = As.reverse ++ .ref h :: rest) (hrest : (rest.map fun v => v.category).sum ≤ 8) (hdg : decode cc pc = .ok (.invokevirtual index, 3)) (hf : cells + rm.cells ≤ R.cells ∧ slots + rm.slots ≤ R.slots)
    (kk : ∀ (H1 : Heap) (locs1 : List Loc), va_P (dC, dI) cls (wr ++ w1) H1 → va_D A (wr ++ w1) → va_S A s.heap H1 locs1 → W p l e R s m args below meth c H1 locs1 (cells + rm.cells) (slots + rm.slots) Q (F0 m (pc + 3) ls rest)) : W p l e R s m args below meth c H locs cells slots Q (F0 m pc ls st) := by
  subst hqC
  have hFc := va_free (wc := wc) hD hS hA isC hC
  refine va_callv (va_runV (As := As) (rest := rest) S hM (cwV As.length S.2.2.2.2 gw rfl rfl rfl hd hR) ⟨ct_blind, ct_recv hP hK hC hc hw, fun U hU hW => ct_pre hP hD hK hS hA hT hn hC hKc U hU hW⟩ rfl rfl hsize hst (lv_room hrest) hdg hf) hS (fun q _ h => hFc q h) hFc (fun u t H1 locs ht hvm hw hB hz1 hk1 hS => ?_)
  obtain ⟨hP1, -, hD1⟩ := hB
  rw [ht] at hP1
  obtain ⟨hP, hD⟩ := va_join hP hD isC isR hC hRr hnR hdis hk1 hFc hP1 hD1
  exact kk H1 locs hP hD hS
theorem ct_cvd {r : UInt64} (S : CallFix p m c cc nL s args wT own) (hM : Ct l dC dI tt y b n (some .double) rm tysc (.ref h :: As) wc H.size (fun A => ctQd dC dI tysc r w1 A)) (gw : GoodIn wT (wsV own index C y (.code y b n (some .double) :: wT)))
    (hd : y.cls = C ∧ y.cls ≠ "java/lang/invoke/MethodHandle" ∧ y.cls ≠ "java/lang/invoke/VarHandle" ∧ (parseMethodDescriptor y.desc).map (fun d => d.parameters.length) = some As.length) (hR : rm.frames + 1 ≤ R.frames ∧ 8 + (n + 11) + rm.locals ≤ R.locals)
    {ci : Nat} {q : vw_C} {fs : List Value} (hc : cls[ci]? = some q) (hqC : q.1 = C) (hw : wc[0]? = some (h, .inr (ci, fs)))
    (hP : va_P (dC, dI) cls ws H) (hD : va_D A ws) (hK : va_K (dC, dI) cls tys s) (hS : va_S A s.heap H locs) (hA : ∀ q : Nat, s.heap.size ≤ q → A q) (hT : sT tt A s s.heap) (isC isR tyi : List Nat) (hn : va_nd isC = true) (hC : isC.map (fun i => ws[i]?) = wc.map some) (hRr : isR.map (fun i => ws[i]?) = wr.map some) (hnR : va_nd isR = true) (hdis : ∀ i ∈ isR, i ∉ isC) (hKc : tyi.filterMap (fun i => tys[i]?) = tysc)
    (hsize : ls.size = nL) {st : List Value} (hst : st = As.reverse ++ .ref h :: rest) (hrest : (rest.map fun v => v.category).sum ≤ 8) (hdg : decode cc pc = .ok (.invokevirtual index, 3)) (hf : cells + rm.cells ≤ R.cells ∧ slots + rm.slots ≤ R.slots)
    (kk : ∀ (H1 : Heap) (locs1 : List Loc), va_P (dC, dI) cls (wr ++ w1) H1 → va_D A (wr ++ w1) → va_S A s.heap H1 locs1 → W p l e R s m args below meth c H1 locs1 (cells + rm.cells) (slots + rm.slots) Q (F0 m (pc + 3) ls (.double r :: rest))) : W p l e R s m args below meth c H locs cells slots Q (F0 m pc ls st) := by
  subst hqC
  have hFc := va_free (wc := wc) hD hS hA isC hC
  refine va_calld (va_runV (As := As) (rest := rest) S hM (cwV As.length S.2.2.2.2 gw rfl rfl rfl hd hR) ⟨ct_blind, ct_recv hP hK hC hc hw, fun U hU hW => ct_pre hP hD hK hS hA hT hn hC hKc U hU hW⟩ rfl rfl hsize hst (lv_room hrest) hdg hf) hS (fun q _ h => hFc q h) hFc (fun r2 u t H1 locs ht hvm hw hB hz1 hk1 hS => ?_)
  obtain ⟨hP1, -, hD1⟩ := hB
  rw [ht] at hP1
  obtain ⟨hP, hD⟩ := va_join hP hD isC isR hC hRr hnR hdis hk1 hFc hP1 hD1
  have hw : r2 = r := hw
  subst hw
  exact kk H1 locs hP hD hS
theorem ct_cvi {r : Int32} (S : CallFix p m c cc nL s args wT own) (hM : Ct l dC dI tt y b n ret rm tysc (.ref h :: As) wc H.size (fun A => ctQi dC dI tysc r w1 A)) (gw : GoodIn wT (wsV own index C y (.code y b n ret :: wT)))
    (hd : y.cls = C ∧ y.cls ≠ "java/lang/invoke/MethodHandle" ∧ y.cls ≠ "java/lang/invoke/VarHandle" ∧ (parseMethodDescriptor y.desc).map (fun d => d.parameters.length) = some As.length) (hR : rm.frames + 1 ≤ R.frames ∧ 8 + (n + 11) + rm.locals ≤ R.locals)
    {ci : Nat} {q : vw_C} {fs : List Value} (hc : cls[ci]? = some q) (hqC : q.1 = C) (hw : wc[0]? = some (h, .inr (ci, fs)))
    (hP : va_P (dC, dI) cls ws H) (hD : va_D A ws) (hK : va_K (dC, dI) cls tys s) (hS : va_S A s.heap H locs) (hA : ∀ q : Nat, s.heap.size ≤ q → A q) (hT : sT tt A s s.heap) (isC isR tyi : List Nat) (hn : va_nd isC = true) (hC : isC.map (fun i => ws[i]?) = wc.map some) (hRr : isR.map (fun i => ws[i]?) = wr.map some) (hnR : va_nd isR = true) (hdis : ∀ i ∈ isR, i ∉ isC) (hKc : tyi.filterMap (fun i => tys[i]?) = tysc)
    (hsize : ls.size = nL) {st : List Value} (hst : st = As.reverse ++ .ref h :: rest) (hrest : (rest.map fun v => v.category).sum ≤ 8) (hdg : decode cc pc = .ok (.invokevirtual index, 3)) (hf : cells + rm.cells ≤ R.cells ∧ slots + rm.slots ≤ R.slots)
    (kk : ∀ (H1 : Heap) (locs1 : List Loc), va_P (dC, dI) cls (wr ++ w1) H1 → va_D A (wr ++ w1) → va_S A s.heap H1 locs1 → W p l e R s m args below meth c H1 locs1 (cells + rm.cells) (slots + rm.slots) Q (F0 m (pc + 3) ls (.int r :: rest))) : W p l e R s m args below meth c H locs cells slots Q (F0 m pc ls st) := by
  subst hqC
  have hFc := va_free (wc := wc) hD hS hA isC hC
  refine va_calli (va_runV (As := As) (rest := rest) S hM (cwV As.length S.2.2.2.2 gw rfl rfl rfl hd hR) ⟨ct_blind, ct_recv hP hK hC hc hw, fun U hU hW => ct_pre hP hD hK hS hA hT hn hC hKc U hU hW⟩ rfl rfl hsize hst (lv_room hrest) hdg hf) hS (fun q _ h => hFc q h) hFc (fun r2 u t H1 locs ht hvm hw hB hz1 hk1 hS => ?_)
  obtain ⟨hP1, -, hD1⟩ := hB
  rw [ht] at hP1
  obtain ⟨hP, hD⟩ := va_join hP hD isC isR hC hRr hnR hdis hk1 hFc hP1 hD1
  have hw : r2 = r := hw
  subst hw
  exact kk H1 locs hP hD hS
/-- a static method that touches no cell -/
theorem ct_csd {r : UInt64} (S : CallFix p m c cc nL s args wT own) (hM : Ct l dC dI tt y b n (some .double) rm [] As [] H.size (fun A => ctQd dC dI [] r [] A)) (gw : GoodIn wT (va_wsS own index y (.code y b n (some .double) :: wT)))
    (hd : y.cls ≠ "java/lang/invoke/MethodHandle" ∧ y.cls ≠ "java/lang/invoke/VarHandle" ∧ (parseMethodDescriptor y.desc).map (fun d => d.parameters.length) = some As.length) (hR : rm.frames + 1 ≤ R.frames ∧ 8 + (n + 11) + rm.locals ≤ R.locals)
    (hP : va_P (dC, dI) cls ws H) (hD : va_D A ws) (hK : va_K (dC, dI) cls tys s) (hS : va_S A s.heap H locs) (hA : ∀ q : Nat, s.heap.size ≤ q → A q) (hT : sT tt A s s.heap) (isR : List Nat) (hRr : isR.map (fun i => ws[i]?) = wr.map some) (hnR : va_nd isR = true)
    (hsize : ls.size = nL) {st : List Value} (hst : st = As.reverse ++ rest) (hrest : (rest.map fun v => v.category).sum ≤ 8) (hdg : decode cc pc = .ok (.invokestatic index, 3)) (hf : cells + rm.cells ≤ R.cells ∧ slots + rm.slots ≤ R.slots)
    (kk : ∀ (H1 : Heap) (locs1 : List Loc), va_P (dC, dI) cls wr H1 → va_D A wr → va_S A s.heap H1 locs1 → W p l e R s m args below meth c H1 locs1 (cells + rm.cells) (slots + rm.slots) Q (F0 m (pc + 3) ls (.double r :: rest))) : W p l e R s m args below meth c H locs cells slots Q (F0 m pc ls st) := by
  have hFc := va_free (wc := []) hD hS hA [] rfl
  refine va_calld (va_runS (As := As) (rest := rest) S hM (va_cwS As.length S.2.2.2.2 gw rfl rfl rfl hd hR) ⟨ct_blind, fun U hU hW => ct_pre (isC := []) (tyi := []) hP hD hK hS hA hT rfl rfl rfl U hU hW⟩ rfl rfl hsize hst (lv_room hrest) hdg hf) hS (fun q _ h => hFc q h) hFc (fun r2 u t H1 locs ht hvm hw hB hz1 hk1 hS => ?_)
  obtain ⟨hP1, -, hD1⟩ := hB
  rw [ht] at hP1
  obtain ⟨hP, hD⟩ := va_join (w1 := []) hP hD [] isR rfl hRr hnR (by simp) hk1 hFc hP1 hD1
  have hw : r2 = r := hw
  subst hw
  rw [List.append_nil] at hP hD
  exact kk H1 locs hP hD hS
theorem ct_csi {r : Int32} (S : CallFix p m c cc nL s args wT own) (hM : Ct l dC dI tt y b n ret rm [] As [] H.size (fun A => ctQi dC dI [] r [] A)) (gw : GoodIn wT (va_wsS own index y (.code y b n ret :: wT)))
    (hd : y.cls ≠ "java/lang/invoke/MethodHandle" ∧ y.cls ≠ "java/lang/invoke/VarHandle" ∧ (parseMethodDescriptor y.desc).map (fun d => d.parameters.length) = some As.length) (hR : rm.frames + 1 ≤ R.frames ∧ 8 + (n + 11) + rm.locals ≤ R.locals)
    (hP : va_P (dC, dI) cls ws H) (hD : va_D A ws) (hK : va_K (dC, dI) cls tys s) (hS : va_S A s.heap H locs) (hA : ∀ q : Nat, s.heap.size ≤ q → A q) (hT : sT tt A s s.heap) (isR : List Nat) (hRr : isR.map (fun i => ws[i]?) = wr.map some) (hnR : va_nd isR = true)
    (hsize : ls.size = nL) {st : List Value} (hst : st = As.reverse ++ rest) (hrest : (rest.map fun v => v.category).sum ≤ 8) (hdg : decode cc pc = .ok (.invokestatic index, 3)) (hf : cells + rm.cells ≤ R.cells ∧ slots + rm.slots ≤ R.slots)
    (kk : ∀ (H1 : Heap) (locs1 : List Loc), va_P (dC, dI) cls wr H1 → va_D A wr → va_S A s.heap H1 locs1 → W p l e R s m args below meth c H1 locs1 (cells + rm.cells) (slots + rm.slots) Q (F0 m (pc + 3) ls (.int r :: rest))) : W p l e R s m args below meth c H locs cells slots Q (F0 m pc ls st) := by
  have hFc := va_free (wc := []) hD hS hA [] rfl
  refine va_calli (va_runS (As := As) (rest := rest) S hM (va_cwS As.length S.2.2.2.2 gw rfl rfl rfl hd hR) ⟨ct_blind, fun U hU hW => ct_pre (isC := []) (tyi := []) hP hD hK hS hA hT rfl rfl rfl U hU hW⟩ rfl rfl hsize hst (lv_room hrest) hdg hf) hS (fun q _ h => hFc q h) hFc (fun r2 u t H1 locs ht hvm hw hB hz1 hk1 hS => ?_)
  obtain ⟨hP1, -, hD1⟩ := hB
  rw [ht] at hP1
  obtain ⟨hP, hD⟩ := va_join (w1 := []) hP hD [] isR rfl hRr hnR (by simp) hk1 hFc hP1 hD1
  have hw : r2 = r := hw
  subst hw
  rw [List.append_nil] at hP hD
  exact kk H1 locs hP hD hS
/-- arrays, with the place and the value named -/
theorem ct_dald (hexec : p.tables.exec = Jvm.exec) (hb : c.code = cc) (hK : va_K (dC, dI) cls tys s) (hP : va_P (dC, dI) cls ws H) (q0 t0 : Nat) {a : Nat} {cA : ClassId} {N : Nat} {f : Nat → UInt64} (ha : ws[q0]? = some (a, .inl (cA, N, .inr (.inr (.inr (.inl f)))))) (ht : tys[t0]? = some (cA, .double)) {i : Int32} {k : Nat} {v : UInt64} (hin : vp_in i N) (hk : i.toNatClampNeg = k) (hv : f k = v) (hdg : decode cc pc = .ok (.daload, 1))
    (kk : W p l e R s m args below meth c H locs cells slots Q (F0 m (pc + 1) ls (.double v :: rest))) : W p l e R s m args below meth c H locs cells slots Q (F0 m pc ls (.int i :: .ref a :: rest)) := by
  subst hk; subst hv
  exact va_dald hexec hb hK hP q0 t0 ha ht hin hdg kk
theorem ct_dast (hexec : p.tables.exec = Jvm.exec) (hb : c.code = cc) (hK : va_K (dC, dI) cls tys s) (hP : va_P (dC, dI) cls ws H) (hD : va_D A ws) (hS : va_S A s.heap H locs) (q0 t0 : Nat) {a : Nat} {cA : ClassId} {N : Nat} {f : Nat → UInt64} (ha : ws[q0]? = some (a, .inl (cA, N, .inr (.inr (.inr (.inl f)))))) (ht : tys[t0]? = some (cA, .double)) {i : Int32} {x : UInt64} {k : Nat} (hin : vp_in i N) (hk : i.toNatClampNeg = k) (hw : ws.set q0 (a, .inl (cA, N, .inr (.inr (.inr (.inl (vf_upd f k x)))))) = w1) (hdg : decode cc pc = .ok (.dastore, 1))
    (kk : ∀ (H1 : Heap) (locs1 : List Loc), va_P (dC, dI) cls w1 H1 → va_D A w1 → va_S A s.heap H1 locs1 → W p l e R s m args below meth c H1 locs1 cells slots Q (F0 m (pc + 1) ls rest)) : W p l e R s m args below meth c H locs cells slots Q (F0 m pc ls (.double x :: .int i :: .ref a :: rest)) := by
  subst hk; subst hw
  exact va_dast hexec hb hK hP hD hS q0 t0 ha ht hin hdg kk
theorem ct_iald (hexec : p.tables.exec = Jvm.exec) (hb : c.code = cc) (hK : va_K (dC, dI) cls tys s) (hP : va_P (dC, dI) cls ws H) (q0 t0 : Nat) {a : Nat} {cA : ClassId} {N : Nat} {f : Nat → Int32} (ha : ws[q0]? = some (a, .inl (cA, N, .inl f))) (ht : tys[t0]? = some (cA, .int)) {i : Int32} {k : Nat} {v : Int32} (hin : vp_in i N) (hk : i.toNatClampNeg = k) (hv : f k = v) (hdg : decode cc pc = .ok (.iaload, 1))
    (kk : W p l e R s m args below meth c H locs cells slots Q (F0 m (pc + 1) ls (.int v :: rest))) : W p l e R s m args below meth c H locs cells slots Q (F0 m pc ls (.int i :: .ref a :: rest)) := by
  subst hk; subst hv
  exact va_iald hexec hb hK hP q0 t0 ha ht hin hdg kk
theorem ct_iast (hexec : p.tables.exec = Jvm.exec) (hb : c.code = cc) (hK : va_K (dC, dI) cls tys s) (hP : va_P (dC, dI) cls ws H) (hD : va_D A ws) (hS : va_S A s.heap H locs) (q0 t0 : Nat) {a : Nat} {cA : ClassId} {N : Nat} {f : Nat → Int32} (ha : ws[q0]? = some (a, .inl (cA, N, .inl f))) (ht : tys[t0]? = some (cA, .int)) {i x : Int32} {k : Nat} (hin : vp_in i N) (hk : i.toNatClampNeg = k) (hw : ws.set q0 (a, .inl (cA, N, .inl (upd f k x))) = w1) (hdg : decode cc pc = .ok (.iastore, 1))
    (kk : ∀ (H1 : Heap) (locs1 : List Loc), va_P (dC, dI) cls w1 H1 → va_D A w1 → va_S A s.heap H1 locs1 → W p l e R s m args below meth c H1 locs1 cells slots Q (F0 m (pc + 1) ls rest)) : W p l e R s m args below meth c H locs cells slots Q (F0 m pc ls (.int x :: .int i :: .ref a :: rest)) := by
  subst hk; subst hw
  exact va_iast hexec hb hK hP hD hS q0 t0 ha ht hin hdg kk
/-- a given table's place -/
theorem ct_tab {Cn n : String} {t N : Nat} {f : Nat → Nat} (hexec : p.tables.exec = Jvm.exec) (hb : c.code = cc) (hT : sT1 Cn n t N f A s s.heap) (hS : va_S A s.heap H locs) {i v : Int32} {k : Nat} (hin : vp_in i N) (hk : i.toNatClampNeg = k) (hv : nI (f k) = v) (hdg : decode cc pc = .ok (.iaload, 1))
    (kk : W p l e R s m args below meth c H locs cells slots Q (F0 m (pc + 1) ls (.int v :: rest))) : W p l e R s m args below meth c H locs cells slots Q (F0 m pc ls (.int i :: .ref t :: rest)) := by
  subst hk; subst hv
  exact va_ti hexec hb hT.2 hS hin rfl hdg kk
end CT
