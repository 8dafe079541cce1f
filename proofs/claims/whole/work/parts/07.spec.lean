/-! what a method reckons, as pure functions; comparisons -/
section CT2
variable {p : Program} {l : Launch} {e : Env} {R : Room} {s : State} {m : MethodId} {args : Array Value} {below : List Frame} {meth : Method} {c : Code} {H : Heap} {locs : List Loc} {cells slots : Nat} {Q : State → Prop} {pc : Nat} {ls : Array Slot} {rest : List Value}
theorem ct_topi {x y : Int32} (h : x = y) (k : W p l e R s m args below meth c H locs cells slots Q (F0 m pc ls (.int y :: rest))) : W p l e R s m args below meth c H locs cells slots Q (F0 m pc ls (.int x :: rest)) := by subst h; exact k
theorem ct_topd {x y : UInt64} (h : x = y) (k : W p l e R s m args below meth c H locs cells slots Q (F0 m pc ls (.double y :: rest))) : W p l e R s m args below meth c H locs cells slots Q (F0 m pc ls (.double x :: rest)) := by subst h; exact k
theorem ct_pc {q : Nat} (h : pc = q) (k : W p l e R s m args below meth c H locs cells slots Q (F0 m q ls rest)) : W p l e R s m args below meth c H locs cells slots Q (F0 m pc ls rest) := by subst h; exact k
end CT2
theorem cv_l_le (o : Option Ordering) : Op.cmpValue o .l ≤ 0 ↔ o ≠ some .gt := by cases o with
  | none => decide
  | some o => cases o <;> decide
theorem cv_l_lt (o : Option Ordering) : Op.cmpValue o .l < 0 ↔ (o = some .lt ∨ o = none) := by cases o with
  | none => decide
  | some o => cases o <;> decide
theorem cv_l_gt (o : Option Ordering) : 0 < Op.cmpValue o .l ↔ o = some .gt := by cases o with
  | none => decide
  | some o => cases o <;> decide
theorem cv_l_ge (o : Option Ordering) : 0 ≤ Op.cmpValue o .l ↔ (o = some .gt ∨ o = some .eq) := by cases o with
  | none => decide
  | some o => cases o <;> decide
theorem cv_l_eq (o : Option Ordering) : Op.cmpValue o .l = 0 ↔ o = some .eq := by cases o with
  | none => decide
  | some o => cases o <;> decide
theorem cv_g_gt (o : Option Ordering) : 0 < Op.cmpValue o .g ↔ (o = some .gt ∨ o = none) := by cases o with
  | none => decide
  | some o => cases o <;> decide
theorem cv_g_ge (o : Option Ordering) : 0 ≤ Op.cmpValue o .g ↔ o ≠ some .lt := by cases o with
  | none => decide
  | some o => cases o <;> decide
theorem cv_g_le (o : Option Ordering) : Op.cmpValue o .g ≤ 0 ↔ (o = some .lt ∨ o = some .eq) := by cases o with
  | none => decide
  | some o => cases o <;> decide
theorem cv_g_lt (o : Option Ordering) : Op.cmpValue o .g < 0 ↔ o = some .lt := by cases o with
  | none => decide
  | some o => cases o <;> decide
/-- finite, as the bits say -/
def ft_isP (a : UInt64) : Bool := match FP.Core.val64 a with
  | .fin false _ _ => true
  | _ => false
theorem ft_isP_P {a : UInt64} (h : ft_isP a = true) : ft_P a := by
  unfold ft_isP at h
  split at h
  · rename_i c q e
    exact ⟨c, q, e⟩
  · cases h
/-- a table's value as a number -/
def tv (r j : Nat) : UInt64 := FP.ddiv (FP.i2d (nI (tb_TB (r * 9 + j)))) (if r < 4 then 4620693217682128896 else 4661225614328463360)
def tU (r j : Nat) : Nat := if r < 4 then tb_TB (r * 9 + j) * 512 else tb_TB (r * 9 + j)
theorem tv_all : ∀ r, r < 9 → ∀ j, j < 9 → ft_isP (tv r j) = true ∧ ft_z (tv r j) = tU r j * ft_w ∧ tU r j ≤ 4096 := by decide +kernel
theorem tv_P {r j : Nat} (hr : r < 9) (hj : j < 9) : ft_P (tv r j) := ft_isP_P (tv_all r hr j hj).1
theorem md_all : ∀ j, j < 9 → ft_isP (FP.i2d (nI (tb_MD j))) = true ∧ ft_z (FP.i2d (nI (tb_MD j))) = tb_MD j * FP.Core.one64 := by decide +kernel
theorem md_P {j : Nat} (hj : j < 9) : ft_P (FP.i2d (nI (tb_MD j))) := ft_isP_P (md_all j hj).1
theorem md_d : ∀ j, j < 8 → ft_isP (FP.i2d (nI (tb_MD (j + 1)) - nI (tb_MD j))) = true ∧ ft_z (FP.i2d (nI (tb_MD (j + 1)) - nI (tb_MD j))) = (tb_MD (j + 1) - tb_MD j) * FP.Core.one64 ∧ 0 < tb_MD (j + 1) - tb_MD j ∧ tb_MD (j + 1) - tb_MD j ≤ 1000 ∧ tb_MD j ≤ tb_MD (j + 1) := by decide +kernel
theorem md0z : ft_z (FP.i2d (nI (tb_MD 0))) = 0 := by decide +kernel
/-- the last mark that isn't above T -/
def mkN (T : UInt64) : Nat → Nat → Nat
  | 0, j => j
  | n + 1, j => if FP.dcmp (FP.i2d (nI (tb_MD (j + 1)))) T = some .gt then j else mkN T n (j + 1)
def mk (T : UInt64) : Nat := mkN T 8 0
theorem mkN_le (T : UInt64) : ∀ n j, mkN T n j ≤ n + j
  | 0, j => by unfold mkN; omega
  | n + 1, j => by
    unfold mkN
    split
    · omega
    · have := mkN_le T n (j + 1); omega
theorem mk_le (T : UInt64) : mk T ≤ 8 := mkN_le T 8 0
theorem mkN_ge (T : UInt64) : ∀ n j, j ≤ mkN T n j
  | 0, j => by unfold mkN; omega
  | n + 1, j => by
    unfold mkN
    split
    · omega
    · have := mkN_ge T n (j + 1); omega
/-- a row's value at T -/
def rwv (T : UInt64) (r j : Nat) : UInt64 := if j < 8 then FP.dadd (tv r j) (FP.ddiv (FP.dmul (FP.dsub (tv r (j + 1)) (tv r j)) (FP.dsub T (FP.i2d (nI (tb_MD j))))) (FP.i2d (nI (tb_MD (j + 1)) - nI (tb_MD j)))) else tv r 8
/-- the mark and T -/
theorem mkN_in {T : UInt64} (hT : ft_P T) : ∀ n j, n + j = 8 → ft_z (FP.i2d (nI (tb_MD j))) ≤ ft_z T → ft_z (FP.i2d (nI (tb_MD (mkN T n j)))) ≤ ft_z T ∧ (mkN T n j < 8 → ft_z T ≤ ft_z (FP.i2d (nI (tb_MD (mkN T n j + 1)))))
  | 0, j, h, hj => by
    unfold mkN
    exact ⟨hj, fun h9 => by omega⟩
  | n + 1, j, h, hj => by
    unfold mkN
    have hm := md_P (j := j + 1) (by omega)
    split
    · rename_i h1
      exact ⟨hj, fun _ => Nat.le_of_lt ((ft_gt hm hT).mp h1)⟩
    · rename_i h1
      refine mkN_in hT n (j + 1) (by omega) ?_
      rw [ft_gt hm hT] at h1
      omega
theorem mk_in {T : UInt64} (hT : ft_P T) : ft_z (FP.i2d (nI (tb_MD (mk T)))) ≤ ft_z T ∧ (mk T < 8 → ft_z T ≤ ft_z (FP.i2d (nI (tb_MD (mk T + 1))))) :=
  mkN_in hT 8 0 rfl (by rw [md0z]; exact Nat.zero_le _)
/-- what between reckons is never no number, and from 0 to 1 -/
theorem rw_ok {T : UInt64} (hT : ft_P T) {r : Nat} (hr : r < 9) (hj : mk T < 8) :
    vf_n64 (FP.dsub (tv r (mk T + 1)) (tv r (mk T))) ∧ vf_n64 (FP.dsub T (FP.i2d (nI (tb_MD (mk T))))) ∧ vf_n64 (FP.dmul (FP.dsub (tv r (mk T + 1)) (tv r (mk T))) (FP.dsub T (FP.i2d (nI (tb_MD (mk T)))))) ∧
    vf_n64 (FP.ddiv (FP.dmul (FP.dsub (tv r (mk T + 1)) (tv r (mk T))) (FP.dsub T (FP.i2d (nI (tb_MD (mk T)))))) (FP.i2d (nI (tb_MD (mk T + 1)) - nI (tb_MD (mk T))))) ∧
    ft_P (FP.dadd (tv r (mk T)) (FP.ddiv (FP.dmul (FP.dsub (tv r (mk T + 1)) (tv r (mk T))) (FP.dsub T (FP.i2d (nI (tb_MD (mk T)))))) (FP.i2d (nI (tb_MD (mk T + 1)) - nI (tb_MD (mk T)))))) ∧ ft_z (FP.dadd (tv r (mk T)) (FP.ddiv (FP.dmul (FP.dsub (tv r (mk T + 1)) (tv r (mk T))) (FP.dsub T (FP.i2d (nI (tb_MD (mk T)))))) (FP.i2d (nI (tb_MD (mk T + 1)) - nI (tb_MD (mk T)))))) ≤ FP.Core.one64 := by
  obtain ⟨h1, h2⟩ := mk_in hT
  have h2 := h2 hj
  generalize mk T = j at *
  obtain ⟨u1, u2, u3⟩ := tv_all r hr j (by omega)
  obtain ⟨v1, v2, v3⟩ := tv_all r hr (j + 1) (by omega)
  obtain ⟨d1, d2, d3, d4, d5⟩ := md_d j hj
  have m1 := (md_all j (by omega)).2
  have m2 := (md_all (j + 1) (by omega)).2
  refine ft_row (U := tU r j) (V := tU r (j + 1)) (N := tb_MD (j + 1) - tb_MD j) (ft_isP_P u1) u2 (ft_isP_P v1) v2 u3 v3 hT (md_P (by omega)) (ft_isP_P d1) d2 d3 d4 h1 ?_
  refine Nat.le_trans h2 ?_
  rw [m1, m2, d2, Nat.sub_mul]
  have := Nat.mul_le_mul_right FP.Core.one64 d5
  omega
theorem rw_P {T : UInt64} (hT : ft_P T) {r : Nat} (hr : r < 9) : ft_P (rwv T r (mk T)) ∧ ft_z (rwv T r (mk T)) ≤ FP.Core.one64 := by
  unfold rwv
  split
  · rename_i h
    exact (rw_ok hT hr h).2.2.2.2
  · refine ⟨tv_P hr (by decide), ?_⟩
    obtain ⟨-, h1, h2⟩ := tv_all r hr 8 (by decide)
    rw [h1, ← ft_w4096]
    exact Nat.mul_le_mul_right _ h2
/-- the rows' values behind moveTo -/
def rwA (T : UInt64) (i : Nat) (rv : Nat → UInt64) : Nat → UInt64 := fun k => if k < i then rwv T k (mk T) else rv k
theorem rwA_0 (T : UInt64) (rv : Nat → UInt64) : rwA T 0 rv = rv := funext fun k => if_neg (Nat.not_lt_zero k)
theorem rwA_s (T : UInt64) (i : Nat) (rv : Nat → UInt64) : vf_upd (rwA T i rv) i (rwv T i (mk T)) = rwA T (i + 1) rv := funext fun k => by
  unfold vf_upd rwA
  by_cases h : k = i
  · subst h; simp
  · by_cases h2 : k < i
    · simp [h, h2, Nat.lt_succ_of_lt h2]
    · simp [h, h2, show ¬ k < i + 1 by omega]
/-- the acidity's fitness, an enzyme's action -/
def fitA (A : UInt64) : UInt64 := if FP.dcmp (FP.dsub 0x3FF0000000000000 (FP.dmul (FP.dmul (FP.dsub A 0x4016000000000000) (FP.dsub A 0x4016000000000000)) 0x3FD0000000000000)) 0 = some .lt then 0 else FP.dsub 0x3FF0000000000000 (FP.dmul (FP.dmul (FP.dsub A 0x4016000000000000) (FP.dsub A 0x4016000000000000)) 0x3FD0000000000000)
theorem fitA_P {A : UInt64} (h : ft_P A) : ft_P (fitA A) ∧ ft_z (fitA A) ≤ FP.Core.one64 := by
  unfold fitA
  split
  · exact ⟨ft_0P, by rw [ft_0z]; exact Nat.zero_le _⟩
  · rename_i h1
    exact (ft_fitness h).2.2.2.2 h1
def actX (x W : UInt64) : UInt64 := if FP.dcmp x 0 = some .gt then FP.dmul (FP.ddiv x (FP.dadd x W)) 0x3FB0000000000000 else 0
/-- the four actions -/
def actE (a rv : Nat → UInt64) (A : UInt64) (e : Nat) : UInt64 := actX (FP.dmul (FP.dmul (a (9 + e)) (rv e)) (fitA A)) (a 0)
def actA (a rv : Nat → UInt64) (A : UInt64) (i : Nat) (ac : Nat → UInt64) : Nat → UInt64 := fun k => if k < i then actE a rv A k else ac k
theorem actA_0 (a rv : Nat → UInt64) (A : UInt64) (ac : Nat → UInt64) : actA a rv A 0 ac = ac := funext fun k => if_neg (Nat.not_lt_zero k)
theorem actA_s (a rv : Nat → UInt64) (A : UInt64) (i : Nat) (ac : Nat → UInt64) : vf_upd (actA a rv A i ac) i (actE a rv A i) = actA a rv A (i + 1) ac := funext fun k => by
  unfold vf_upd actA
  by_cases h : k = i
  · subst h; simp
  · by_cases h2 : k < i
    · simp [h, h2, Nat.lt_succ_of_lt h2]
    · simp [h, h2, show ¬ k < i + 1 by omega]
/-- the splits, step by step -/
def lesD (a b : UInt64) : UInt64 := if FP.dcmp b a = some .lt then b else a
def s3 (a rv : Nat → UInt64) : Nat → UInt64 := vf_upd (vf_upd a 1 (FP.dsub (a 1) (FP.dmul (a 1) (rv 8)))) 2 (FP.dadd (a 2) (FP.dmul (a 1) (rv 8)))
def s4 (a ac : Nat → UInt64) : Nat → UInt64 := vf_upd (vf_upd (vf_upd a 2 (FP.dsub (a 2) (FP.dmul (a 2) (ac 0)))) 6 (FP.dadd (a 6) (FP.dmul (FP.dmul (a 2) (ac 0)) 0x3FE8000000000000))) 5 (FP.dadd (a 5) (FP.dmul (FP.dmul (a 2) (ac 0)) 0x3FD0000000000000))
def y5 (a ac : Nat → UInt64) : UInt64 := lesD (FP.dmul (a 6) (ac 1)) (FP.dmul (a 0) 0x4020000000000000)
def s5 (a ac : Nat → UInt64) : Nat → UInt64 := vf_upd (vf_upd (vf_upd a 6 (FP.dsub (a 6) (y5 a ac))) 4 (FP.dadd (a 4) (FP.dmul (y5 a ac) 0x3FF1000000000000))) 0 (FP.dsub (a 0) (FP.dmul (y5 a ac) 0x3FB0000000000000))
def z6 (a ac : Nat → UInt64) : UInt64 := lesD (FP.dmul (a 6) (ac 2)) (FP.dmul (a 0) 0x4000000000000000)
def s6 (a ac : Nat → UInt64) : Nat → UInt64 := vf_upd (vf_upd (vf_upd a 6 (FP.dsub (a 6) (z6 a ac))) 3 (FP.dadd (a 3) (FP.dmul (z6 a ac) 0x3FF2000000000000))) 0 (FP.dsub (a 0) (FP.dmul (z6 a ac) 0x3FC0000000000000))
def s7 (a ac : Nat → UInt64) : Nat → UInt64 := vf_upd (vf_upd a 8 (FP.dsub (a 8) (FP.dmul (a 8) (ac 3)))) 7 (FP.dadd (a 7) (FP.dmul (a 8) (ac 3)))
def s8 (a rv : Nat → UInt64) (i : Nat) : Nat → UInt64 := fun k => if 9 ≤ k ∧ k < 9 + i then FP.dsub (a k) (FP.dmul (a k) (rv (4 + (k - 9)))) else a k
theorem s8_0 (a rv : Nat → UInt64) : s8 a rv 0 = a := funext fun k => if_neg (by omega)
theorem s8_s (a rv : Nat → UInt64) (i : Nat) : vf_upd (s8 a rv i) (9 + i) (FP.dsub (a (9 + i)) (FP.dmul (a (9 + i)) (rv (4 + i)))) = s8 a rv (i + 1) := funext fun k => by
  unfold vf_upd s8
  by_cases h : k = 9 + i
  · subst h
    rw [if_pos rfl, if_pos (by omega), show 9 + i - 9 = i by omega]
  · rw [if_neg h]
    by_cases h2 : 9 ≤ k ∧ k < 9 + i
    · rw [if_pos h2, if_pos (by omega)]
    · rw [if_neg h2, if_neg (by omega)]
theorem s8_at (a rv : Nat → UInt64) (i : Nat) : s8 a rv i (9 + i) = a (9 + i) := if_neg (by omega)
/-- the first step later than now -/
def fstN (hs : Nat → Int32) (nw : Int32) (hc : Nat) : Nat → Nat → Nat
  | 0, k => k
  | n + 1, k => if k < hc ∧ hs k ≤ nw then fstN hs nw hc n (k + 1) else k
def fst (hs : Nat → Int32) (nw : Int32) (hc k : Nat) : Nat := fstN hs nw hc (hc - k) k
/-- T behind the second's heating, with k the first later step -/
def heatT (hs : Nat → Int32) (ht : Nat → UInt64) (hc k : Nat) (nw : Int32) (T : UInt64) : UInt64 := if k < hc then FP.dadd T (FP.ddiv (FP.dsub (ht k) T) (FP.i2d (hs k - nw))) else T
