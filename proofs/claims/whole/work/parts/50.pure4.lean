/-! The class's own world -/
def slF (A : Nat → Nat) : Nat → Option Nat := va_up (va_up (fun _ => none) 0 (some (A 11))) 1 (some (A 16))
abbrev wX (A : Nat → Nat) (cI cZ cS : ClassId) (fk0 fv0 fr0 fd0 : Nat → Int32) (c0 : Int32) (fk3 fv3 fr3 fd3 : Nat → Int32) (c3 : Int32) (fk1 fv1 fr1 fd1 : Nat → Int32) (c1 : Int32) (fk2 fv2 fr2 fd2 : Nat → Int32) (c2 : Int32) (ft fu : Nat → Int32) (iu dn rs rf ct ev fe : Int32) : va_W :=
  (A 0, .inr (2, [.ref (A 1), .ref (A 6), .ref (A 21), .ref (A 22), .ref (A 23), .int dn, .int rs, .int rf, .int ct, .int ev, .int fe])) :: (wS (A 1) (A 2) (A 3) (A 4) (A 5) cI fk0 fv0 fr0 fd0 c0 ++ (wS (A 6) (A 7) (A 8) (A 9) (A 10) cI fk3 fv3 fr3 fd3 c3 ++ (wS (A 11) (A 12) (A 13) (A 14) (A 15) cI fk1 fv1 fr1 fd1 c1 ++ (wS (A 16) (A 17) (A 18) (A 19) (A 20) cI fk2 fv2 fr2 fd2 c2 ++ ([(A 21, .inl (cS, 2, .inr (.inr (.inr (.inr (slF A)))))), (A 22, .inl (cZ, 2, .inl ft))] ++ wH (A 23) (A 24) cZ fu iu)))))
theorem putB_go : ∀ (w1 pre suf : va_W), suf.length = w1.length → putB (pre ++ suf) (List.range' pre.length w1.length) w1 = pre ++ w1
  | [], pre, suf, h => by
    have : suf = [] := List.length_eq_zero_iff.mp h
    subst this; simp [putB, List.range']
  | q :: w1, pre, [], h => by simp at h
  | q :: w1, pre, s0 :: suf, h => by
    have e1 : List.range' pre.length (q :: w1).length = pre.length :: List.range' (pre ++ [q]).length w1.length := by
      show List.range' pre.length (w1.length + 1) = _
      rw [List.range'_succ, List.length_append]; rfl
    rw [e1]
    show putB ((pre ++ s0 :: suf).set pre.length q) _ w1 = _
    have e2 : (pre ++ s0 :: suf).set pre.length q = (pre ++ [q]) ++ suf := by simp
    rw [e2, putB_go w1 (pre ++ [q]) suf (by simpa using h)]
    simp
theorem putB25 {w : va_W} (w1 : va_W) (hw : w.length = 25) (h : w1.length = 25) : putB w [0, 1, 2, 3, 4, 5, 6, 7, 8, 9, 10, 11, 12, 13, 14, 15, 16, 17, 18, 19, 20, 21, 22, 23, 24] w1 = w1 := by
  have := putB_go w1 [] w (by rw [hw, h])
  rw [h] at this
  exact this
def uniO (t : Bool) (u : Nat → Bool) (d : Nat → Nat) (n : Nat) : Nat → Bool := if t = true then uniD u d n else u
theorem uniO_t {t : Bool} {u : Nat → Bool} {d : Nat → Nat} {n : Nat} (h : t = true) : uniO t u d n = uniD u d n := if_pos h
theorem uniO_f {t : Bool} {u : Nat → Bool} {d : Nat → Nat} {n : Nat} (h : t = false) : uniO t u d n = u := by unfold uniO; rw [h]; rfl
/-- the nodes in use, of the map and the taken slots -/
def U3 (d0 d1 d2 : Nat → Nat) (n0 n1 n2 : Nat) (t1 t2 : Bool) : Nat → Bool := uniO t2 (uniO t1 (uniD (fun _ => false) d0 n0) d1 n1) d2 n2
theorem slot01 {x : Int32} (h1 : ¬ x < 0) (h2 : ¬ nI 2 ≤ x) : x = 0 ∨ x = 1 := by
  rcases pk_ix x (n := 2) (by omega) with h | h | ⟨j, hj, rfl⟩
  · exact absurd h h1
  · exact absurd h h2
  · rcases (show j = 0 ∨ j = 1 by omega) with rfl | rfl
    · exact Or.inl rfl
    · exact Or.inr rfl
/-- the nodes fd of n keys are the numbers d, below 64 -/
def isD (fd : Nat → Int32) (d : Nat → Nat) (n : Nat) : Prop := ∀ i, i < n → fd i = nI (d i) ∧ d i < 64
theorem keF_cnt {fk fv fr gk gv gr fd gd : Nat → Int32} {d0 : Nat → Nat} {n m : Nat} (hd : isD gd d0 m) : cntF (fun i => decide (keF fd gd (kpC fk fv fr gk gv gr n m) (olC fk gk m) n i = -1)) n = nwC fk fv fr gk gv gr n m n := by
  refine cntF_congr n (fun i hi => ?_)
  show decide (keF fd gd _ _ n i = -1) = !(kpC fk fv fr gk gv gr n m i)
  rw [keF_in hi]
  cases hk : kpC fk fv fr gk gv gr n m i with
  | false => rw [if_neg (by decide)]; rfl
  | true =>
    rw [if_pos rfl]
    have h1 : ∃ b, fnK gk m (fk i) = some b := by
      unfold kpC kpT at hk
      cases hq : fnK gk m (fk i) with
      | none => rw [hq] at hk; cases hk
      | some b => exact ⟨b, rfl⟩
    obtain ⟨b, hb⟩ := h1
    have h2 := fnK_some hb
    have h3 : olC fk gk m i = b := by unfold olC; rw [hb]; rfl
    rw [h3, (hd b h2.1).1]
    exact decide_eq_false (fun e => (n_m1 (by have := (hd b h2.1).2; omega)).mp e)
theorem nd25 : va_nd [0, 1, 2, 3, 4, 5, 6, 7, 8, 9, 10, 11, 12, 13, 14, 15, 16, 17, 18, 19, 20, 21, 22, 23, 24] = true := by decide +kernel
theorem mapAll (w : va_W) : (List.range w.length).map (fun i => w[i]?) = w.map some := by
  apply List.ext_getElem
  · simp
  · intro i h1 h2
    simp at h1 h2 ⊢
theorem map25 {w : va_W} (h : w.length = 25) : [0, 1, 2, 3, 4, 5, 6, 7, 8, 9, 10, 11, 12, 13, 14, 15, 16, 17, 18, 19, 20, 21, 22, 23, 24].map (fun i => w[i]?) = w.map some := by
  have := mapAll w
  rw [h] at this
  exact this
