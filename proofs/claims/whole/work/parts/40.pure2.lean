/-! More pure words, and the row of System.arraycopy -/
def enc1 : Option Nat → Int32
  | none => -1
  | some i => nI i
theorem n_m1 {a : Nat} (h : a < 2 ^ 31) : nI a = -1 ↔ False := ⟨fun e => absurd (by rw [e]; decide : nI a < 0) (nI_pos h), False.elim⟩
/-- keepNodesOf's new nodes -/
def keF (fd gd : Nat → Int32) (kp : Nat → Bool) (ol : Nat → Nat) (k : Nat) : Nat → Int32 := fun j => if j < k then (if kp j = true then gd (ol j) else -1) else fd j
theorem keF_0 (fd gd : Nat → Int32) (kp : Nat → Bool) (ol : Nat → Nat) : keF fd gd kp ol 0 = fd := by funext j; unfold keF; rw [if_neg (by omega)]
theorem keF_s {fd gd : Nat → Int32} {kp : Nat → Bool} {ol : Nat → Nat} {k : Nat} {v : Int32} (hv : v = if kp k = true then gd (ol k) else -1) : upd (keF fd gd kp ol k) k v = keF fd gd kp ol (k + 1) := by
  funext j; unfold upd keF
  by_cases h1 : j = k
  · subst h1; rw [if_pos rfl, if_pos (Nat.lt_succ_self j)]; exact hv
  · rw [if_neg h1]
    by_cases h2 : j < k
    · rw [if_pos h2, if_pos (show j < k + 1 by omega)]
    · rw [if_neg h2, if_neg (show ¬ j < k + 1 by omega)]
theorem keF_in {fd gd : Nat → Int32} {kp : Nat → Bool} {ol : Nat → Nat} {k j : Nat} (h : j < k) : keF fd gd kp ol k j = if kp j = true then gd (ol j) else -1 := by unfold keF; rw [if_pos h]
def kpC (fk fv fr gk gv gr : Nat → Int32) (n m : Nat) : Nat → Bool := kpT (hiC fr) (hiC gr) fk fv gk gv n m
def olC (fk gk : Nat → Int32) (m : Nat) : Nat → Nat := fun j => (fnK gk m (fk j)).getD 0
def nwC (fk fv fr gk gv gr : Nat → Int32) (n m k : Nat) : Nat := cntF (fun j => !(kpC fk fv fr gk gv gr n m j)) k
def lbN (K : Nat → Int32) (n : Nat) (key : Int32) : Nat := (lbK K n key).getD n
theorem lbN_le (K : Nat → Int32) (n : Nat) (key : Int32) : lbN K n key ≤ n := by
  unfold lbN
  cases hl : lbK K n key with
  | none => exact Nat.le_refl n
  | some i => have := (fndF_some n 0 i hl).2.1; show i ≤ n; omega
theorem fnK_lbN {K : Nat → Int32} {n : Nat} {key : Int32} (hK : inc K n) : fnK K n key = (if lbN K n key < n ∧ K (lbN K n key) = key then some (lbN K n key) else none) := by
  rw [fnK_lb hK]
  unfold lbN
  cases hl : lbK K n key with
  | none => show none = _; rw [if_neg (by show ¬ (n < n ∧ _); omega)]
  | some i =>
    have h1 := (fndF_some n 0 i hl).2.1
    show (if K i = key then some i else none) = (if i < n ∧ K i = key then some i else none)
    by_cases h : K i = key
    · rw [if_pos h, if_pos ⟨by omega, h⟩]
    · rw [if_neg h, if_neg (fun q => h q.2)]
theorem x_acpy {X : XT} {l : Launch} {D : va_G} {nL : Nat} {cc : ByteArray} {Ts : List Cond} {own : String} {tys : TY} {R0 : Room} {k n pc pc' : Nat} {lv : List (Nat × Value)} {w w' : va_W} {st : List Value} {index : Nat} (h : OK X l D cc Ts own tys R0 nL) (e : pc + 3 = pc') (hlink : Cond.methodLink own index arraycopyName ∈ Ts) (hnat : Cond.native arraycopyName ∈ Ts) (hstat : Cond.static arraycopyName ∈ Ts) (hini : Cond.initialized "java/lang/System" ∈ Ts) (q0 q1 t0 t1 : Nat) {a0 a1 : Nat} {c0 c1 : ClassId} {n0 n1 : Nat} {f g : Nat → Int32} (ha0 : w[q0]? = some (a0, .inl (c0, n0, .inl f))) (ha1 : w[q1]? = some (a1, .inl (c1, n1, .inl g))) (ht0 : tys[t0]? = some (c0, .int)) (ht1 : tys[t1]? = some (c1, .int)) {sp dp nn : Nat} (h4 : sp + nn ≤ n0) (h5 : dp + nn ≤ n1) (hb0 : n0 < 2 ^ 31) (hb1 : n1 < 2 ^ 31) (hfr : 1 ≤ R0.frames) (hlo : (st.map fun v => v.category).sum + (nativeFrameWords "java/lang/System" "arraycopy" 5 + 11) ≤ R0.locals) (d : decode cc pc = .ok (.invokestatic index, 3)) (hw : w.set q1 (a1, .inl (c1, n1, .inl (va_cpy f g sp dp nn))) = w') (kk : WX X k n pc' lv w' st) : WX X k n pc lv w (.int (nI nn) :: .int (nI dp) :: .ref a1 :: .int (nI sp) :: .ref a0 :: st) := by
  subst e; subst hw
  obtain ⟨hx, hb, hts, hown, hK, hml, hR0, hl, hD, hnL⟩ := h
  subst hR0
  intro H locs ls hP hDw hS hlv
  have es : (nI sp).toNatClampNeg = sp := nI_clamp (by omega)
  have ed : (nI dp).toNatClampNeg = dp := nI_clamp (by omega)
  have en : (nI nn).toNatClampNeg = nn := nI_clamp (by omega)
  refine va_copyi hx hb (hml.trans (hlv.1.trans hnL).symm) hown (hts _ hlink) (hts _ hnat) (hts _ hstat) (hts _ hini) hK hP hDw hS q0 q1 t0 t1 ha0 ha1 ht0 ht1 rfl (nI_pos (by omega)) (nI_pos (by omega)) (nI_pos (by omega)) (by rw [es, en]; exact h4) (by rw [ed, en]; exact h5) (fun _ _ => rfl) hfr hlo d ?_
  rw [es, ed, en]
  intro H1 locs1 hP1 hD1 hS1
  exact kk H1 locs1 ls hP1 hD1 hS1 hlv
abbrev wS (o b1 b2 b3 b4 : Nat) (cI : ClassId) (fk fv fr fd : Nat → Int32) (c : Int32) : va_W := [(o, .inr (1, [.ref b1, .ref b2, .ref b3, .ref b4, .int c])), (b1, .inl (cI, 30, .inl fk)), (b2, .inl (cI, 30, .inl fv)), (b3, .inl (cI, 30, .inl fr)), (b4, .inl (cI, 30, .inl fd))]
