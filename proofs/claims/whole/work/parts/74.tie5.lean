theorem get_same {fk fv gk gv : Nat → Int32} {n s : Nat} {key : Int32} (h : SD fk fv n gk gv s) : (match fnK fk n key with | none => (-4 : Int32) | some i => fv i) = (match fnK (sec gk s) n key with | none => -4 | some i => sec gv s i) := by
  rw [fnK_congr (K' := fk) h.1]
  cases hq : fnK fk n key with
  | none => rfl
  | some i => exact (h.2.1 i (fnK_some hq).1).symm
theorem next_same {fk fv gk gv : Nat → Int32} {n s : Nat} {key : Int32} (h : SD fk fv n gk gv s) : (match lbK fk n key with | none => (-4 : Int32) | some i => fk i) = (match lbK (sec gk s) n key with | none => -4 | some i => sec gk s i) := by
  rw [lbK_congr (K' := fk) h.1]
  cases hq : lbK fk n key with
  | none => rfl
  | some i => exact (h.1 i (by have := (fndF_some n 0 i hq).2.1; omega)).symm
theorem dep_same {fk fv fr gk gv : Nat → Int32} {n : Nat} {key : Int32} (h : SD fk fv n gk gv 0) (r : RK fk fr n) : (match fnK fk n key with | none => (-4 : Int32) | some x => nI (cntF (fun i => decide (i ≠ x ∧ fsT (hiC fr) i ≤ x ∧ x ≤ laT (hiC fr) n i)) n)) = (match fnK (sec gk 0) n key with | none => -4 | some a => nI (cntF (fun i => decide (i ≠ a ∧ fsT (hiK (sec gk 0)) i ≤ a ∧ a ≤ laT (hiK (sec gk 0)) n i)) n)) := by
  rw [fnK_congr (K' := fk) h.1]
  cases hq : fnK fk n key with
  | none => rfl
  | some a =>
    show nI _ = nI _
    congr 1
    refine cntF_congr n (fun i hi => ?_)
    have e : ∀ j, j < n → hiC fr i j = hiK (sec gk 0) i j := fun j hj => by rw [hi_eq r h.2.2 hi hj]; unfold hiK; rw [h.1 i hi, h.1 j hj]
    have e1 : fsT (hiC fr) i = fsT (hiK (sec gk 0)) i := fstF_congr i (fun j hj => e j (by omega))
    have e2 : laT (hiC fr) n i = laT (hiK (sec gk 0)) n i := lstF_congr _ _ (fun j h1 h2 => e j (by omega))
    rw [e1, e2]
theorem ttf {b : Bool} {P : Prop} (h1 : b = true) (h2 : b = false) : P := by rw [h1] at h2; cases h2
theorem t_cut {c : Nat} {fk0 fv0 fr0 fd0 : Nat → Int32} {n0 : Nat} {fk3 fv3 fr3 fd3 : Nat → Int32} {n3 : Nat} {fk1 fv1 fr1 fd1 : Nat → Int32} {n1 : Nat} {fk2 fv2 fr2 fd2 : Nat → Int32} {n2 : Nat} {ft gc gk gv gi gh : Nat → Int32} {made : Nat} {dn pe t1 t2 : Bool} {ct : Int32} {d0 d1 d2 d3 i0 i1 i2 i3 : Nat → Nat} {A : Nat → Nat} {cI cZ cS : ClassId} {fu : Nat → Int32} {iu : Int32} {o a1 a2 a3 a4 a5 : Nat} {so fl : Bool} {ev fe : Int32} (hI : IV c fk0 fv0 fr0 fd0 n0 fk3 fv3 fr3 fd3 n3 fk1 fv1 fr1 fd1 n1 fk2 fv2 fr2 fd2 n2 ft gc gk gv gi gh made dn pe t1 t2 ct d0 d1 d2 d3 i0 i1 i2 i3) {n : Int32} {r1 r2 : Int32} {w1 w2 : va_W}
    (p1 : (¬ -1 ≤ n ∧ r1 = 0 ∧ w1 = (wX A cI cZ cS fk0 fv0 fr0 fd0 (nI n0) fk3 fv3 fr3 fd3 (nI n3) fk1 fv1 fr1 fd1 (nI n1) fk2 fv2 fr2 fd2 (nI n2) ft fu iu (bi dn) (bi (pe && so)) (bi (pe && fl)) ct ev fe)) ∨ (-1 ≤ n ∧ r1 = 1 ∧ w1 = (wX A cI cZ cS fk0 fv0 fr0 fd0 (nI n0) fk3 fv3 fr3 fd3 (nI n3) fk1 fv1 fr1 fd1 (nI n1) fk2 fv2 fr2 fd2 (nI n2) ft fu iu (bi dn) (bi (pe && so)) (bi (pe && fl)) n ev fe)))
    (p2 : (¬ -1 ≤ n ∧ r2 = 0 ∧ w2 = (wR o a1 a2 a3 a4 a5 cI cZ gc gk gv gi gh (nI made) (bi dn) (bi pe) (bi so) (bi fl) ct ev fe)) ∨ (-1 ≤ n ∧ r2 = 1 ∧ w2 = (wR o a1 a2 a3 a4 a5 cI cZ gc gk gv gi gh (nI made) (bi dn) (bi pe) (bi so) (bi fl) n ev fe))) : r1 = r2 ∧ TI (c + 1) (A 0) o cI cZ cS w1 w2 := by
  have same : TI (c + 1) (A 0) o cI cZ cS (wX A cI cZ cS fk0 fv0 fr0 fd0 (nI n0) fk3 fv3 fr3 fd3 (nI n3) fk1 fv1 fr1 fd1 (nI n1) fk2 fv2 fr2 fd2 (nI n2) ft fu iu (bi dn) (bi (pe && so)) (bi (pe && fl)) ct ev fe) (wR o a1 a2 a3 a4 a5 cI cZ gc gk gv gi gh (nI made) (bi dn) (bi pe) (bi so) (bi fl) ct ev fe) := ⟨A, fk0, fv0, fr0, fd0, n0, fk3, fv3, fr3, fd3, n3, fk1, fv1, fr1, fd1, n1, fk2, fv2, fr2, fd2, n2, ft, fu, iu, a1, a2, a3, a4, a5, gc, gk, gv, gi, gh, made, dn, pe, so, fl, t1, t2, ct, ev, fe, d0, d1, d2, d3, i0, i1, i2, i3, rfl, rfl, rfl, IV_up hI⟩
  obtain ⟨⟨⟨l0, l3, l1, l2⟩, ⟨g0, g3, g1, g2⟩, q1, q2, q3, q4⟩, ⟨hpe, hct, hmd⟩, ⟨S0, K0, N0⟩, T1, T2, T12, TP⟩ := id hI
  rcases p1 with ⟨u, rfl, rfl⟩ | ⟨u, rfl, rfl⟩ <;> rcases p2 with ⟨v, rfl, rfl⟩ | ⟨v, rfl, rfl⟩
  · exact ⟨rfl, same⟩
  · exact absurd v u
  · exact absurd u v
  · have h := IV_up hI
    exact ⟨rfl, A, fk0, fv0, fr0, fd0, n0, fk3, fv3, fr3, fd3, n3, fk1, fv1, fr1, fd1, n1, fk2, fv2, fr2, fd2, n2, ft, fu, iu, a1, a2, a3, a4, a5, gc, gk, gv, gi, gh, made, dn, pe, so, fl, t1, t2, n, ev, fe, d0, d1, d2, d3, i0, i1, i2, i3, rfl, rfl, rfl, h.1, ⟨h.2.1.1, u, h.2.1.2.2⟩, h.2.2⟩
theorem t_get {c : Nat} {fk0 fv0 fr0 fd0 : Nat → Int32} {n0 : Nat} {fk3 fv3 fr3 fd3 : Nat → Int32} {n3 : Nat} {fk1 fv1 fr1 fd1 : Nat → Int32} {n1 : Nat} {fk2 fv2 fr2 fd2 : Nat → Int32} {n2 : Nat} {ft gc gk gv gi gh : Nat → Int32} {made : Nat} {dn pe t1 t2 : Bool} {ct : Int32} {d0 d1 d2 d3 i0 i1 i2 i3 : Nat → Nat} {A : Nat → Nat} {cI cZ cS : ClassId} {fu : Nat → Int32} {iu : Int32} {o a1 a2 a3 a4 a5 : Nat} {so fl : Bool} {ev fe : Int32} (hI : IV c fk0 fv0 fr0 fd0 n0 fk3 fv3 fr3 fd3 n3 fk1 fv1 fr1 fd1 n1 fk2 fv2 fr2 fd2 n2 ft gc gk gv gi gh made dn pe t1 t2 ct d0 d1 d2 d3 i0 i1 i2 i3) {key : Int32} {r1 r2 : Int32} {w1 w2 : va_W}
    (p1 : r1 = (if dn = true then -1 else (match fnK fk0 n0 key with | none => -4 | some i => fv0 i)) ∧ w1 = (wX A cI cZ cS fk0 fv0 fr0 fd0 (nI n0) fk3 fv3 fr3 fd3 (nI n3) fk1 fv1 fr1 fd1 (nI n1) fk2 fv2 fr2 fd2 (nI n2) ft fu iu (bi dn) (bi (pe && so)) (bi (pe && fl)) ct ev fe))
    (p2 : r2 = (if dn = true then -1 else (match fnK (sec gk 0) n0 key with | none => -4 | some i => sec gv 0 i)) ∧ w2 = (wR o a1 a2 a3 a4 a5 cI cZ gc gk gv gi gh (nI made) (bi dn) (bi pe) (bi so) (bi fl) ct ev fe)) : r1 = r2 ∧ TI (c + 1) (A 0) o cI cZ cS w1 w2 := by
  have same : TI (c + 1) (A 0) o cI cZ cS (wX A cI cZ cS fk0 fv0 fr0 fd0 (nI n0) fk3 fv3 fr3 fd3 (nI n3) fk1 fv1 fr1 fd1 (nI n1) fk2 fv2 fr2 fd2 (nI n2) ft fu iu (bi dn) (bi (pe && so)) (bi (pe && fl)) ct ev fe) (wR o a1 a2 a3 a4 a5 cI cZ gc gk gv gi gh (nI made) (bi dn) (bi pe) (bi so) (bi fl) ct ev fe) := ⟨A, fk0, fv0, fr0, fd0, n0, fk3, fv3, fr3, fd3, n3, fk1, fv1, fr1, fd1, n1, fk2, fv2, fr2, fd2, n2, ft, fu, iu, a1, a2, a3, a4, a5, gc, gk, gv, gi, gh, made, dn, pe, so, fl, t1, t2, ct, ev, fe, d0, d1, d2, d3, i0, i1, i2, i3, rfl, rfl, rfl, IV_up hI⟩
  obtain ⟨⟨⟨l0, l3, l1, l2⟩, ⟨g0, g3, g1, g2⟩, q1, q2, q3, q4⟩, ⟨hpe, hct, hmd⟩, ⟨S0, K0, N0⟩, T1, T2, T12, TP⟩ := id hI
  obtain ⟨rfl, rfl⟩ := p1
  obtain ⟨rfl, rfl⟩ := p2
  exact ⟨by rw [get_same S0], same⟩
theorem t_next {c : Nat} {fk0 fv0 fr0 fd0 : Nat → Int32} {n0 : Nat} {fk3 fv3 fr3 fd3 : Nat → Int32} {n3 : Nat} {fk1 fv1 fr1 fd1 : Nat → Int32} {n1 : Nat} {fk2 fv2 fr2 fd2 : Nat → Int32} {n2 : Nat} {ft gc gk gv gi gh : Nat → Int32} {made : Nat} {dn pe t1 t2 : Bool} {ct : Int32} {d0 d1 d2 d3 i0 i1 i2 i3 : Nat → Nat} {A : Nat → Nat} {cI cZ cS : ClassId} {fu : Nat → Int32} {iu : Int32} {o a1 a2 a3 a4 a5 : Nat} {so fl : Bool} {ev fe : Int32} (hI : IV c fk0 fv0 fr0 fd0 n0 fk3 fv3 fr3 fd3 n3 fk1 fv1 fr1 fd1 n1 fk2 fv2 fr2 fd2 n2 ft gc gk gv gi gh made dn pe t1 t2 ct d0 d1 d2 d3 i0 i1 i2 i3) {key : Int32} {r1 r2 : Int32} {w1 w2 : va_W}
    (p1 : r1 = (if dn = true then -1 else (match lbK fk0 n0 key with | none => -4 | some i => fk0 i)) ∧ w1 = (wX A cI cZ cS fk0 fv0 fr0 fd0 (nI n0) fk3 fv3 fr3 fd3 (nI n3) fk1 fv1 fr1 fd1 (nI n1) fk2 fv2 fr2 fd2 (nI n2) ft fu iu (bi dn) (bi (pe && so)) (bi (pe && fl)) ct ev fe))
    (p2 : r2 = (if dn = true then -1 else (match lbK (sec gk 0) n0 key with | none => -4 | some i => sec gk 0 i)) ∧ w2 = (wR o a1 a2 a3 a4 a5 cI cZ gc gk gv gi gh (nI made) (bi dn) (bi pe) (bi so) (bi fl) ct ev fe)) : r1 = r2 ∧ TI (c + 1) (A 0) o cI cZ cS w1 w2 := by
  have same : TI (c + 1) (A 0) o cI cZ cS (wX A cI cZ cS fk0 fv0 fr0 fd0 (nI n0) fk3 fv3 fr3 fd3 (nI n3) fk1 fv1 fr1 fd1 (nI n1) fk2 fv2 fr2 fd2 (nI n2) ft fu iu (bi dn) (bi (pe && so)) (bi (pe && fl)) ct ev fe) (wR o a1 a2 a3 a4 a5 cI cZ gc gk gv gi gh (nI made) (bi dn) (bi pe) (bi so) (bi fl) ct ev fe) := ⟨A, fk0, fv0, fr0, fd0, n0, fk3, fv3, fr3, fd3, n3, fk1, fv1, fr1, fd1, n1, fk2, fv2, fr2, fd2, n2, ft, fu, iu, a1, a2, a3, a4, a5, gc, gk, gv, gi, gh, made, dn, pe, so, fl, t1, t2, ct, ev, fe, d0, d1, d2, d3, i0, i1, i2, i3, rfl, rfl, rfl, IV_up hI⟩
  obtain ⟨⟨⟨l0, l3, l1, l2⟩, ⟨g0, g3, g1, g2⟩, q1, q2, q3, q4⟩, ⟨hpe, hct, hmd⟩, ⟨S0, K0, N0⟩, T1, T2, T12, TP⟩ := id hI
  obtain ⟨rfl, rfl⟩ := p1
  obtain ⟨rfl, rfl⟩ := p2
  exact ⟨by rw [next_same S0], same⟩
theorem t_depth {c : Nat} {fk0 fv0 fr0 fd0 : Nat → Int32} {n0 : Nat} {fk3 fv3 fr3 fd3 : Nat → Int32} {n3 : Nat} {fk1 fv1 fr1 fd1 : Nat → Int32} {n1 : Nat} {fk2 fv2 fr2 fd2 : Nat → Int32} {n2 : Nat} {ft gc gk gv gi gh : Nat → Int32} {made : Nat} {dn pe t1 t2 : Bool} {ct : Int32} {d0 d1 d2 d3 i0 i1 i2 i3 : Nat → Nat} {A : Nat → Nat} {cI cZ cS : ClassId} {fu : Nat → Int32} {iu : Int32} {o a1 a2 a3 a4 a5 : Nat} {so fl : Bool} {ev fe : Int32} (hI : IV c fk0 fv0 fr0 fd0 n0 fk3 fv3 fr3 fd3 n3 fk1 fv1 fr1 fd1 n1 fk2 fv2 fr2 fd2 n2 ft gc gk gv gi gh made dn pe t1 t2 ct d0 d1 d2 d3 i0 i1 i2 i3) {key : Int32} {r1 r2 : Int32} {w1 w2 : va_W}
    (p1 : r1 = (if dn = true then -1 else (match fnK fk0 n0 key with | none => -4 | some x => nI (cntF (fun i => decide (i ≠ x ∧ fsT (hiC fr0) i ≤ x ∧ x ≤ laT (hiC fr0) n0 i)) n0))) ∧ w1 = (wX A cI cZ cS fk0 fv0 fr0 fd0 (nI n0) fk3 fv3 fr3 fd3 (nI n3) fk1 fv1 fr1 fd1 (nI n1) fk2 fv2 fr2 fd2 (nI n2) ft fu iu (bi dn) (bi (pe && so)) (bi (pe && fl)) ct ev fe))
    (p2 : r2 = (if dn = true then -1 else (match fnK (sec gk 0) n0 key with | none => -4 | some a => nI (cntF (fun i => decide (i ≠ a ∧ fsT (hiK (sec gk 0)) i ≤ a ∧ a ≤ laT (hiK (sec gk 0)) n0 i)) n0))) ∧ w2 = (wR o a1 a2 a3 a4 a5 cI cZ gc gk gv gi gh (nI made) (bi dn) (bi pe) (bi so) (bi fl) ct ev fe)) : r1 = r2 ∧ TI (c + 1) (A 0) o cI cZ cS w1 w2 := by
  have same : TI (c + 1) (A 0) o cI cZ cS (wX A cI cZ cS fk0 fv0 fr0 fd0 (nI n0) fk3 fv3 fr3 fd3 (nI n3) fk1 fv1 fr1 fd1 (nI n1) fk2 fv2 fr2 fd2 (nI n2) ft fu iu (bi dn) (bi (pe && so)) (bi (pe && fl)) ct ev fe) (wR o a1 a2 a3 a4 a5 cI cZ gc gk gv gi gh (nI made) (bi dn) (bi pe) (bi so) (bi fl) ct ev fe) := ⟨A, fk0, fv0, fr0, fd0, n0, fk3, fv3, fr3, fd3, n3, fk1, fv1, fr1, fd1, n1, fk2, fv2, fr2, fd2, n2, ft, fu, iu, a1, a2, a3, a4, a5, gc, gk, gv, gi, gh, made, dn, pe, so, fl, t1, t2, ct, ev, fe, d0, d1, d2, d3, i0, i1, i2, i3, rfl, rfl, rfl, IV_up hI⟩
  obtain ⟨⟨⟨l0, l3, l1, l2⟩, ⟨g0, g3, g1, g2⟩, q1, q2, q3, q4⟩, ⟨hpe, hct, hmd⟩, ⟨S0, K0, N0⟩, T1, T2, T12, TP⟩ := id hI
  obtain ⟨rfl, rfl⟩ := p1
  obtain ⟨rfl, rfl⟩ := p2
  exact ⟨by rw [dep_same S0 K0], same⟩
theorem t_size {c : Nat} {fk0 fv0 fr0 fd0 : Nat → Int32} {n0 : Nat} {fk3 fv3 fr3 fd3 : Nat → Int32} {n3 : Nat} {fk1 fv1 fr1 fd1 : Nat → Int32} {n1 : Nat} {fk2 fv2 fr2 fd2 : Nat → Int32} {n2 : Nat} {ft gc gk gv gi gh : Nat → Int32} {made : Nat} {dn pe t1 t2 : Bool} {ct : Int32} {d0 d1 d2 d3 i0 i1 i2 i3 : Nat → Nat} {A : Nat → Nat} {cI cZ cS : ClassId} {fu : Nat → Int32} {iu : Int32} {o a1 a2 a3 a4 a5 : Nat} {so fl : Bool} {ev fe : Int32} (hI : IV c fk0 fv0 fr0 fd0 n0 fk3 fv3 fr3 fd3 n3 fk1 fv1 fr1 fd1 n1 fk2 fv2 fr2 fd2 n2 ft gc gk gv gi gh made dn pe t1 t2 ct d0 d1 d2 d3 i0 i1 i2 i3)  {r1 r2 : Int32} {w1 w2 : va_W}
    (p1 : r1 = (if dn = true then -1 else nI n0) ∧ w1 = (wX A cI cZ cS fk0 fv0 fr0 fd0 (nI n0) fk3 fv3 fr3 fd3 (nI n3) fk1 fv1 fr1 fd1 (nI n1) fk2 fv2 fr2 fd2 (nI n2) ft fu iu (bi dn) (bi (pe && so)) (bi (pe && fl)) ct ev fe))
    (p2 : r2 = (if dn = true then -1 else nI n0) ∧ w2 = (wR o a1 a2 a3 a4 a5 cI cZ gc gk gv gi gh (nI made) (bi dn) (bi pe) (bi so) (bi fl) ct ev fe)) : r1 = r2 ∧ TI (c + 1) (A 0) o cI cZ cS w1 w2 := by
  have same : TI (c + 1) (A 0) o cI cZ cS (wX A cI cZ cS fk0 fv0 fr0 fd0 (nI n0) fk3 fv3 fr3 fd3 (nI n3) fk1 fv1 fr1 fd1 (nI n1) fk2 fv2 fr2 fd2 (nI n2) ft fu iu (bi dn) (bi (pe && so)) (bi (pe && fl)) ct ev fe) (wR o a1 a2 a3 a4 a5 cI cZ gc gk gv gi gh (nI made) (bi dn) (bi pe) (bi so) (bi fl) ct ev fe) := ⟨A, fk0, fv0, fr0, fd0, n0, fk3, fv3, fr3, fd3, n3, fk1, fv1, fr1, fd1, n1, fk2, fv2, fr2, fd2, n2, ft, fu, iu, a1, a2, a3, a4, a5, gc, gk, gv, gi, gh, made, dn, pe, so, fl, t1, t2, ct, ev, fe, d0, d1, d2, d3, i0, i1, i2, i3, rfl, rfl, rfl, IV_up hI⟩
  obtain ⟨⟨⟨l0, l3, l1, l2⟩, ⟨g0, g3, g1, g2⟩, q1, q2, q3, q4⟩, ⟨hpe, hct, hmd⟩, ⟨S0, K0, N0⟩, T1, T2, T12, TP⟩ := id hI
  obtain ⟨rfl, rfl⟩ := p1
  obtain ⟨rfl, rfl⟩ := p2
  exact ⟨rfl, same⟩
theorem t_events {c : Nat} {fk0 fv0 fr0 fd0 : Nat → Int32} {n0 : Nat} {fk3 fv3 fr3 fd3 : Nat → Int32} {n3 : Nat} {fk1 fv1 fr1 fd1 : Nat → Int32} {n1 : Nat} {fk2 fv2 fr2 fd2 : Nat → Int32} {n2 : Nat} {ft gc gk gv gi gh : Nat → Int32} {made : Nat} {dn pe t1 t2 : Bool} {ct : Int32} {d0 d1 d2 d3 i0 i1 i2 i3 : Nat → Nat} {A : Nat → Nat} {cI cZ cS : ClassId} {fu : Nat → Int32} {iu : Int32} {o a1 a2 a3 a4 a5 : Nat} {so fl : Bool} {ev fe : Int32} (hI : IV c fk0 fv0 fr0 fd0 n0 fk3 fv3 fr3 fd3 n3 fk1 fv1 fr1 fd1 n1 fk2 fv2 fr2 fd2 n2 ft gc gk gv gi gh made dn pe t1 t2 ct d0 d1 d2 d3 i0 i1 i2 i3)  {r1 r2 : Int32} {w1 w2 : va_W}
    (p1 : r1 = ev ∧ w1 = (wX A cI cZ cS fk0 fv0 fr0 fd0 (nI n0) fk3 fv3 fr3 fd3 (nI n3) fk1 fv1 fr1 fd1 (nI n1) fk2 fv2 fr2 fd2 (nI n2) ft fu iu (bi dn) (bi (pe && so)) (bi (pe && fl)) ct ev fe))
    (p2 : r2 = ev ∧ w2 = (wR o a1 a2 a3 a4 a5 cI cZ gc gk gv gi gh (nI made) (bi dn) (bi pe) (bi so) (bi fl) ct ev fe)) : r1 = r2 ∧ TI (c + 1) (A 0) o cI cZ cS w1 w2 := by
  have same : TI (c + 1) (A 0) o cI cZ cS (wX A cI cZ cS fk0 fv0 fr0 fd0 (nI n0) fk3 fv3 fr3 fd3 (nI n3) fk1 fv1 fr1 fd1 (nI n1) fk2 fv2 fr2 fd2 (nI n2) ft fu iu (bi dn) (bi (pe && so)) (bi (pe && fl)) ct ev fe) (wR o a1 a2 a3 a4 a5 cI cZ gc gk gv gi gh (nI made) (bi dn) (bi pe) (bi so) (bi fl) ct ev fe) := ⟨A, fk0, fv0, fr0, fd0, n0, fk3, fv3, fr3, fd3, n3, fk1, fv1, fr1, fd1, n1, fk2, fv2, fr2, fd2, n2, ft, fu, iu, a1, a2, a3, a4, a5, gc, gk, gv, gi, gh, made, dn, pe, so, fl, t1, t2, ct, ev, fe, d0, d1, d2, d3, i0, i1, i2, i3, rfl, rfl, rfl, IV_up hI⟩
  obtain ⟨⟨⟨l0, l3, l1, l2⟩, ⟨g0, g3, g1, g2⟩, q1, q2, q3, q4⟩, ⟨hpe, hct, hmd⟩, ⟨S0, K0, N0⟩, T1, T2, T12, TP⟩ := id hI
  obtain ⟨rfl, rfl⟩ := p1
  obtain ⟨rfl, rfl⟩ := p2
  exact ⟨rfl, same⟩
theorem t_fences {c : Nat} {fk0 fv0 fr0 fd0 : Nat → Int32} {n0 : Nat} {fk3 fv3 fr3 fd3 : Nat → Int32} {n3 : Nat} {fk1 fv1 fr1 fd1 : Nat → Int32} {n1 : Nat} {fk2 fv2 fr2 fd2 : Nat → Int32} {n2 : Nat} {ft gc gk gv gi gh : Nat → Int32} {made : Nat} {dn pe t1 t2 : Bool} {ct : Int32} {d0 d1 d2 d3 i0 i1 i2 i3 : Nat → Nat} {A : Nat → Nat} {cI cZ cS : ClassId} {fu : Nat → Int32} {iu : Int32} {o a1 a2 a3 a4 a5 : Nat} {so fl : Bool} {ev fe : Int32} (hI : IV c fk0 fv0 fr0 fd0 n0 fk3 fv3 fr3 fd3 n3 fk1 fv1 fr1 fd1 n1 fk2 fv2 fr2 fd2 n2 ft gc gk gv gi gh made dn pe t1 t2 ct d0 d1 d2 d3 i0 i1 i2 i3)  {r1 r2 : Int32} {w1 w2 : va_W}
    (p1 : r1 = fe ∧ w1 = (wX A cI cZ cS fk0 fv0 fr0 fd0 (nI n0) fk3 fv3 fr3 fd3 (nI n3) fk1 fv1 fr1 fd1 (nI n1) fk2 fv2 fr2 fd2 (nI n2) ft fu iu (bi dn) (bi (pe && so)) (bi (pe && fl)) ct ev fe))
    (p2 : r2 = fe ∧ w2 = (wR o a1 a2 a3 a4 a5 cI cZ gc gk gv gi gh (nI made) (bi dn) (bi pe) (bi so) (bi fl) ct ev fe)) : r1 = r2 ∧ TI (c + 1) (A 0) o cI cZ cS w1 w2 := by
  have same : TI (c + 1) (A 0) o cI cZ cS (wX A cI cZ cS fk0 fv0 fr0 fd0 (nI n0) fk3 fv3 fr3 fd3 (nI n3) fk1 fv1 fr1 fd1 (nI n1) fk2 fv2 fr2 fd2 (nI n2) ft fu iu (bi dn) (bi (pe && so)) (bi (pe && fl)) ct ev fe) (wR o a1 a2 a3 a4 a5 cI cZ gc gk gv gi gh (nI made) (bi dn) (bi pe) (bi so) (bi fl) ct ev fe) := ⟨A, fk0, fv0, fr0, fd0, n0, fk3, fv3, fr3, fd3, n3, fk1, fv1, fr1, fd1, n1, fk2, fv2, fr2, fd2, n2, ft, fu, iu, a1, a2, a3, a4, a5, gc, gk, gv, gi, gh, made, dn, pe, so, fl, t1, t2, ct, ev, fe, d0, d1, d2, d3, i0, i1, i2, i3, rfl, rfl, rfl, IV_up hI⟩
  obtain ⟨⟨⟨l0, l3, l1, l2⟩, ⟨g0, g3, g1, g2⟩, q1, q2, q3, q4⟩, ⟨hpe, hct, hmd⟩, ⟨S0, K0, N0⟩, T1, T2, T12, TP⟩ := id hI
  obtain ⟨rfl, rfl⟩ := p1
  obtain ⟨rfl, rfl⟩ := p2
  exact ⟨rfl, same⟩
theorem t_nodes {c : Nat} {fk0 fv0 fr0 fd0 : Nat → Int32} {n0 : Nat} {fk3 fv3 fr3 fd3 : Nat → Int32} {n3 : Nat} {fk1 fv1 fr1 fd1 : Nat → Int32} {n1 : Nat} {fk2 fv2 fr2 fd2 : Nat → Int32} {n2 : Nat} {ft gc gk gv gi gh : Nat → Int32} {made : Nat} {dn pe t1 t2 : Bool} {ct : Int32} {d0 d1 d2 d3 i0 i1 i2 i3 : Nat → Nat} {A : Nat → Nat} {cI cZ cS : ClassId} {fu : Nat → Int32} {iu : Int32} {o a1 a2 a3 a4 a5 : Nat} {so fl : Bool} {ev fe : Int32} (hI : IV c fk0 fv0 fr0 fd0 n0 fk3 fv3 fr3 fd3 n3 fk1 fv1 fr1 fd1 n1 fk2 fv2 fr2 fd2 n2 ft gc gk gv gi gh made dn pe t1 t2 ct d0 d1 d2 d3 i0 i1 i2 i3) (hc : c ≤ 511) {r1 r2 : Int32} {w1 w2 : va_W}
    (p1 : (dn = true ∧ r1 = -1 ∧ w1 = (wX A cI cZ cS fk0 fv0 fr0 fd0 (nI n0) fk3 fv3 fr3 fd3 (nI n3) fk1 fv1 fr1 fd1 (nI n1) fk2 fv2 fr2 fd2 (nI n2) ft fu iu (bi dn) (bi (pe && so)) (bi (pe && fl)) ct ev fe)) ∨ (dn = false ∧ ∃ g : Nat → Int32, r1 = nI (cntF (U3 d0 d1 d2 n0 n1 n2 t1 t2) 64) ∧ w1 = (wX A cI cZ cS fk0 fv0 fr0 fd0 (nI n0) fk3 fv3 fr3 fd3 (nI n3) fk1 fv1 fr1 fd1 (nI n1) fk2 fv2 fr2 fd2 (nI n2) ft g (nI (cntF (U3 d0 d1 d2 n0 n1 n2 t1 t2) 64)) (bi dn) (bi (pe && so)) (bi (pe && fl)) ct ev fe)))
    (p2 : r2 = (if dn = true then -1 else nI (useR gi n0 n1 n2 t1 t2)) ∧ w2 = (wR o a1 a2 a3 a4 a5 cI cZ gc gk gv gi gh (nI made) (bi dn) (bi pe) (bi so) (bi fl) ct ev fe)) : r1 = r2 ∧ TI (c + 1) (A 0) o cI cZ cS w1 w2 := by
  have same : TI (c + 1) (A 0) o cI cZ cS (wX A cI cZ cS fk0 fv0 fr0 fd0 (nI n0) fk3 fv3 fr3 fd3 (nI n3) fk1 fv1 fr1 fd1 (nI n1) fk2 fv2 fr2 fd2 (nI n2) ft fu iu (bi dn) (bi (pe && so)) (bi (pe && fl)) ct ev fe) (wR o a1 a2 a3 a4 a5 cI cZ gc gk gv gi gh (nI made) (bi dn) (bi pe) (bi so) (bi fl) ct ev fe) := ⟨A, fk0, fv0, fr0, fd0, n0, fk3, fv3, fr3, fd3, n3, fk1, fv1, fr1, fd1, n1, fk2, fv2, fr2, fd2, n2, ft, fu, iu, a1, a2, a3, a4, a5, gc, gk, gv, gi, gh, made, dn, pe, so, fl, t1, t2, ct, ev, fe, d0, d1, d2, d3, i0, i1, i2, i3, rfl, rfl, rfl, IV_up hI⟩
  obtain ⟨⟨⟨l0, l3, l1, l2⟩, ⟨g0, g3, g1, g2⟩, q1, q2, q3, q4⟩, ⟨hpe, hct, hmd⟩, ⟨S0, K0, N0⟩, T1, T2, T12, TP⟩ := id hI
  obtain ⟨rfl, rfl⟩ := p2
  have eU : cntF (U3 d0 d1 d2 n0 n1 n2 t1 t2) 64 = useR gi n0 n1 n2 t1 t2 := use_same (by omega) N0 (fun h => ⟨(T1 h).2.1, (T1 h).2.2⟩) (fun h => ⟨(T2 h).2.1, (T2 h).2.2⟩) T12
  rcases p1 with ⟨u, rfl, rfl⟩ | ⟨u, g, rfl, rfl⟩
  · exact ⟨by rw [if_pos u], same⟩
  · exact ⟨by rw [if_neg (by rw [u]; decide), eU], A, fk0, fv0, fr0, fd0, n0, fk3, fv3, fr3, fd3, n3, fk1, fv1, fr1, fd1, n1, fk2, fv2, fr2, fd2, n2, ft, g, _, a1, a2, a3, a4, a5, gc, gk, gv, gi, gh, made, dn, pe, so, fl, t1, t2, ct, ev, fe, d0, d1, d2, d3, i0, i1, i2, i3, rfl, rfl, rfl, IV_up hI⟩
theorem t_crash {c : Nat} {fk0 fv0 fr0 fd0 : Nat → Int32} {n0 : Nat} {fk3 fv3 fr3 fd3 : Nat → Int32} {n3 : Nat} {fk1 fv1 fr1 fd1 : Nat → Int32} {n1 : Nat} {fk2 fv2 fr2 fd2 : Nat → Int32} {n2 : Nat} {ft gc gk gv gi gh : Nat → Int32} {made : Nat} {dn pe t1 t2 : Bool} {ct : Int32} {d0 d1 d2 d3 i0 i1 i2 i3 : Nat → Nat} {A : Nat → Nat} {cI cZ cS : ClassId} {fu : Nat → Int32} {iu : Int32} {o a1 a2 a3 a4 a5 : Nat} {so fl : Bool} {ev fe : Int32} (hI : IV c fk0 fv0 fr0 fd0 n0 fk3 fv3 fr3 fd3 n3 fk1 fv1 fr1 fd1 n1 fk2 fv2 fr2 fd2 n2 ft gc gk gv gi gh made dn pe t1 t2 ct d0 d1 d2 d3 i0 i1 i2 i3)  {r1 r2 : Int32} {w1 w2 : va_W}
    (p1 : (dn = true ∧ r1 = 0 ∧ w1 = (wX A cI cZ cS fk0 fv0 fr0 fd0 (nI n0) fk3 fv3 fr3 fd3 (nI n3) fk1 fv1 fr1 fd1 (nI n1) fk2 fv2 fr2 fd2 (nI n2) ft fu iu (bi dn) (bi (pe && so)) (bi (pe && fl)) ct ev fe)) ∨ (dn = false ∧ r1 = 1 ∧ w1 = (wX A cI cZ cS fk0 fv0 fr0 fd0 (nI n0) fk3 fv3 fr3 fd3 (nI n3) fk1 fv1 fr1 fd1 (nI n1) fk2 fv2 fr2 fd2 (nI n2) ft fu iu (nI 1) (bi (pe && so)) (bi (pe && fl)) ct ev fe)))
    (p2 : (dn = true ∧ r2 = 0 ∧ w2 = (wR o a1 a2 a3 a4 a5 cI cZ gc gk gv gi gh (nI made) (bi dn) (bi pe) (bi so) (bi fl) ct ev fe)) ∨ (dn = false ∧ r2 = 1 ∧ w2 = (wR o a1 a2 a3 a4 a5 cI cZ gc gk gv gi gh (nI made) (nI 1) (bi pe) (bi so) (bi fl) ct ev fe))) : r1 = r2 ∧ TI (c + 1) (A 0) o cI cZ cS w1 w2 := by
  have same : TI (c + 1) (A 0) o cI cZ cS (wX A cI cZ cS fk0 fv0 fr0 fd0 (nI n0) fk3 fv3 fr3 fd3 (nI n3) fk1 fv1 fr1 fd1 (nI n1) fk2 fv2 fr2 fd2 (nI n2) ft fu iu (bi dn) (bi (pe && so)) (bi (pe && fl)) ct ev fe) (wR o a1 a2 a3 a4 a5 cI cZ gc gk gv gi gh (nI made) (bi dn) (bi pe) (bi so) (bi fl) ct ev fe) := ⟨A, fk0, fv0, fr0, fd0, n0, fk3, fv3, fr3, fd3, n3, fk1, fv1, fr1, fd1, n1, fk2, fv2, fr2, fd2, n2, ft, fu, iu, a1, a2, a3, a4, a5, gc, gk, gv, gi, gh, made, dn, pe, so, fl, t1, t2, ct, ev, fe, d0, d1, d2, d3, i0, i1, i2, i3, rfl, rfl, rfl, IV_up hI⟩
  obtain ⟨⟨⟨l0, l3, l1, l2⟩, ⟨g0, g3, g1, g2⟩, q1, q2, q3, q4⟩, ⟨hpe, hct, hmd⟩, ⟨S0, K0, N0⟩, T1, T2, T12, TP⟩ := id hI
  rcases p1 with ⟨u, rfl, rfl⟩ | ⟨u, rfl, rfl⟩ <;> rcases p2 with ⟨v, rfl, rfl⟩ | ⟨v, rfl, rfl⟩
  · exact ⟨rfl, same⟩
  · exact ttf u v
  · exact ttf v u
  · have h := IV_up hI
    exact ⟨rfl, A, fk0, fv0, fr0, fd0, n0, fk3, fv3, fr3, fd3, n3, fk1, fv1, fr1, fd1, n1, fk2, fv2, fr2, fd2, n2, ft, fu, iu, a1, a2, a3, a4, a5, gc, gk, gv, gi, gh, made, true, pe, so, fl, t1, t2, ct, ev, fe, d0, d1, d2, d3, i0, i1, i2, i3, rfl, rfl, rfl, h.1, ⟨fun q => absurd q (by decide), h.2.1.2⟩, h.2.2⟩
theorem t_release {c : Nat} {fk0 fv0 fr0 fd0 : Nat → Int32} {n0 : Nat} {fk3 fv3 fr3 fd3 : Nat → Int32} {n3 : Nat} {fk1 fv1 fr1 fd1 : Nat → Int32} {n1 : Nat} {fk2 fv2 fr2 fd2 : Nat → Int32} {n2 : Nat} {ft gc gk gv gi gh : Nat → Int32} {made : Nat} {dn pe t1 t2 : Bool} {ct : Int32} {d0 d1 d2 d3 i0 i1 i2 i3 : Nat → Nat} {A : Nat → Nat} {cI cZ cS : ClassId} {fu : Nat → Int32} {iu : Int32} {o a1 a2 a3 a4 a5 : Nat} {so fl : Bool} {ev fe : Int32} (hI : IV c fk0 fv0 fr0 fd0 n0 fk3 fv3 fr3 fd3 n3 fk1 fv1 fr1 fd1 n1 fk2 fv2 fr2 fd2 n2 ft gc gk gv gi gh made dn pe t1 t2 ct d0 d1 d2 d3 i0 i1 i2 i3) {slot : Int32} {r1 r2 : Int32} {w1 w2 : va_W}
    (p1 : ((dn = true ∨ ¬ ((slot = 0 ∧ t1 = true) ∨ (slot = 1 ∧ t2 = true))) ∧ r1 = 0 ∧ w1 = (wX A cI cZ cS fk0 fv0 fr0 fd0 (nI n0) fk3 fv3 fr3 fd3 (nI n3) fk1 fv1 fr1 fd1 (nI n1) fk2 fv2 fr2 fd2 (nI n2) ft fu iu (bi dn) (bi (pe && so)) (bi (pe && fl)) ct ev fe)) ∨ (dn = false ∧ slot = 0 ∧ t1 = true ∧ r1 = 1 ∧ w1 = (wX A cI cZ cS fk0 fv0 fr0 fd0 (nI n0) fk3 fv3 fr3 fd3 (nI n3) fk1 fv1 fr1 fd1 (nI n1) fk2 fv2 fr2 fd2 (nI n2) (upd ft 0 (nI 0)) fu iu (bi dn) (bi (pe && so)) (bi (pe && fl)) ct ev fe)) ∨ (dn = false ∧ slot = 1 ∧ t2 = true ∧ r1 = 1 ∧ w1 = (wX A cI cZ cS fk0 fv0 fr0 fd0 (nI n0) fk3 fv3 fr3 fd3 (nI n3) fk1 fv1 fr1 fd1 (nI n1) fk2 fv2 fr2 fd2 (nI n2) (upd ft 1 (nI 0)) fu iu (bi dn) (bi (pe && so)) (bi (pe && fl)) ct ev fe)))
    (p2 : ((dn = true ∨ ¬ (slot = 0 ∨ slot = 1) ∨ (slot = 0 ∧ t1 = false) ∨ (slot = 1 ∧ t2 = false)) ∧ r2 = 0 ∧ w2 = (wR o a1 a2 a3 a4 a5 cI cZ gc gk gv gi gh (nI made) (bi dn) (bi pe) (bi so) (bi fl) ct ev fe)) ∨ (dn = false ∧ slot = 0 ∧ t1 = true ∧ r2 = 1 ∧ w2 = (wR o a1 a2 a3 a4 a5 cI cZ gc gk gv gi (upd gh (0 + 1) (nI 0)) (nI made) (bi dn) (bi pe) (bi so) (bi fl) ct ev fe)) ∨ (dn = false ∧ slot = 1 ∧ t2 = true ∧ r2 = 1 ∧ w2 = (wR o a1 a2 a3 a4 a5 cI cZ gc gk gv gi (upd gh (1 + 1) (nI 0)) (nI made) (bi dn) (bi pe) (bi so) (bi fl) ct ev fe))) : r1 = r2 ∧ TI (c + 1) (A 0) o cI cZ cS w1 w2 := by
  have same : TI (c + 1) (A 0) o cI cZ cS (wX A cI cZ cS fk0 fv0 fr0 fd0 (nI n0) fk3 fv3 fr3 fd3 (nI n3) fk1 fv1 fr1 fd1 (nI n1) fk2 fv2 fr2 fd2 (nI n2) ft fu iu (bi dn) (bi (pe && so)) (bi (pe && fl)) ct ev fe) (wR o a1 a2 a3 a4 a5 cI cZ gc gk gv gi gh (nI made) (bi dn) (bi pe) (bi so) (bi fl) ct ev fe) := ⟨A, fk0, fv0, fr0, fd0, n0, fk3, fv3, fr3, fd3, n3, fk1, fv1, fr1, fd1, n1, fk2, fv2, fr2, fd2, n2, ft, fu, iu, a1, a2, a3, a4, a5, gc, gk, gv, gi, gh, made, dn, pe, so, fl, t1, t2, ct, ev, fe, d0, d1, d2, d3, i0, i1, i2, i3, rfl, rfl, rfl, IV_up hI⟩
  obtain ⟨⟨⟨l0, l3, l1, l2⟩, ⟨g0, g3, g1, g2⟩, q1, q2, q3, q4⟩, ⟨hpe, hct, hmd⟩, ⟨S0, K0, N0⟩, T1, T2, T12, TP⟩ := id hI
  have ne : (0 : Int32) ≠ 1 := by decide
  rcases p1 with ⟨u, rfl, rfl⟩ | ⟨u, rfl, u3, rfl, rfl⟩ | ⟨u, rfl, u3, rfl, rfl⟩
  · rcases p2 with ⟨v, rfl, rfl⟩ | ⟨v, rfl, v3, rfl, rfl⟩ | ⟨v, rfl, v3, rfl, rfl⟩
    · exact ⟨rfl, same⟩
    · rcases u with u | u
      · exact ttf u v
      · exact absurd (Or.inl ⟨rfl, v3⟩) u
    · rcases u with u | u
      · exact ttf u v
      · exact absurd (Or.inr ⟨rfl, v3⟩) u
  · rcases p2 with ⟨v, rfl, rfl⟩ | ⟨v, v2, v3, rfl, rfl⟩ | ⟨v, v2, v3, rfl, rfl⟩
    · rcases v with v | v | v | v
      · exact ttf v u
      · exact absurd (Or.inl rfl) v
      · exact ttf u3 v.2
      · exact absurd v.1 ne
    · have h := IV_up hI
      exact ⟨rfl, A, fk0, fv0, fr0, fd0, n0, fk3, fv3, fr3, fd3, n3, fk1, fv1, fr1, fd1, n1, fk2, fv2, fr2, fd2, n2, upd ft 0 (nI 0), fu, iu, a1, a2, a3, a4, a5, gc, gk, gv, gi, upd gh (0 + 1) (nI 0), made, dn, pe, so, fl, false, t2, ct, ev, fe, d0, d1, d2, d3, i0, i1, i2, i3, rfl, rfl, rfl, ⟨h.1.1, h.1.2.1, pk_us, (pk_un (by omega)).trans q2, pk_us, (pk_un (by omega)).trans q4⟩, h.2.1, h.2.2.1, (fun q => absurd q (by decide)), h.2.2.2.2.1, (fun q => absurd q (by decide)), h.2.2.2.2.2.2⟩
    · exact absurd v2 ne
  · rcases p2 with ⟨v, rfl, rfl⟩ | ⟨v, v2, v3, rfl, rfl⟩ | ⟨v, v2, v3, rfl, rfl⟩
    · rcases v with v | v | v | v
      · exact ttf v u
      · exact absurd (Or.inr rfl) v
      · exact absurd v.1.symm ne
      · exact ttf u3 v.2
    · exact absurd v2.symm ne
    · have h := IV_up hI
      exact ⟨rfl, A, fk0, fv0, fr0, fd0, n0, fk3, fv3, fr3, fd3, n3, fk1, fv1, fr1, fd1, n1, fk2, fv2, fr2, fd2, n2, upd ft 1 (nI 0), fu, iu, a1, a2, a3, a4, a5, gc, gk, gv, gi, upd gh (1 + 1) (nI 0), made, dn, pe, so, fl, t1, false, ct, ev, fe, d0, d1, d2, d3, i0, i1, i2, i3, rfl, rfl, rfl, ⟨h.1.1, h.1.2.1, (pk_un (by omega)).trans q1, pk_us, (pk_un (by omega)).trans q3, pk_us⟩, h.2.1, h.2.2.1, h.2.2.2.1, (fun q => absurd q (by decide)), (fun _ q => absurd q (by decide)), h.2.2.2.2.2.2⟩
theorem t_heldGet {c : Nat} {fk0 fv0 fr0 fd0 : Nat → Int32} {n0 : Nat} {fk3 fv3 fr3 fd3 : Nat → Int32} {n3 : Nat} {fk1 fv1 fr1 fd1 : Nat → Int32} {n1 : Nat} {fk2 fv2 fr2 fd2 : Nat → Int32} {n2 : Nat} {ft gc gk gv gi gh : Nat → Int32} {made : Nat} {dn pe t1 t2 : Bool} {ct : Int32} {d0 d1 d2 d3 i0 i1 i2 i3 : Nat → Nat} {A : Nat → Nat} {cI cZ cS : ClassId} {fu : Nat → Int32} {iu : Int32} {o a1 a2 a3 a4 a5 : Nat} {so fl : Bool} {ev fe : Int32} (hI : IV c fk0 fv0 fr0 fd0 n0 fk3 fv3 fr3 fd3 n3 fk1 fv1 fr1 fd1 n1 fk2 fv2 fr2 fd2 n2 ft gc gk gv gi gh made dn pe t1 t2 ct d0 d1 d2 d3 i0 i1 i2 i3) {slot key : Int32} {r1 r2 : Int32} {w1 w2 : va_W}
    (p1 : ((dn = true ∧ r1 = -1) ∨ (dn = false ∧ slot = 0 ∧ t1 = true ∧ r1 = (match fnK fk1 n1 key with | none => -4 | some i => fv1 i)) ∨ (dn = false ∧ slot = 1 ∧ t2 = true ∧ r1 = (match fnK fk2 n2 key with | none => -4 | some i => fv2 i)) ∨ (dn = false ∧ ¬ ((slot = 0 ∧ t1 = true) ∨ (slot = 1 ∧ t2 = true)) ∧ r1 = -3)) ∧ w1 = (wX A cI cZ cS fk0 fv0 fr0 fd0 (nI n0) fk3 fv3 fr3 fd3 (nI n3) fk1 fv1 fr1 fd1 (nI n1) fk2 fv2 fr2 fd2 (nI n2) ft fu iu (bi dn) (bi (pe && so)) (bi (pe && fl)) ct ev fe))
    (p2 : ((dn = true ∧ r2 = -1) ∨ (dn = false ∧ slot = 0 ∧ t1 = true ∧ r2 = (match fnK (sec gk 1) n1 key with | none => -4 | some i => sec gv 1 i)) ∨ (dn = false ∧ slot = 1 ∧ t2 = true ∧ r2 = (match fnK (sec gk 2) n2 key with | none => -4 | some i => sec gv 2 i)) ∨ (dn = false ∧ ¬ (slot = 0 ∧ t1 = true) ∧ ¬ (slot = 1 ∧ t2 = true) ∧ r2 = -3)) ∧ w2 = (wR o a1 a2 a3 a4 a5 cI cZ gc gk gv gi gh (nI made) (bi dn) (bi pe) (bi so) (bi fl) ct ev fe)) : r1 = r2 ∧ TI (c + 1) (A 0) o cI cZ cS w1 w2 := by
  have same : TI (c + 1) (A 0) o cI cZ cS (wX A cI cZ cS fk0 fv0 fr0 fd0 (nI n0) fk3 fv3 fr3 fd3 (nI n3) fk1 fv1 fr1 fd1 (nI n1) fk2 fv2 fr2 fd2 (nI n2) ft fu iu (bi dn) (bi (pe && so)) (bi (pe && fl)) ct ev fe) (wR o a1 a2 a3 a4 a5 cI cZ gc gk gv gi gh (nI made) (bi dn) (bi pe) (bi so) (bi fl) ct ev fe) := ⟨A, fk0, fv0, fr0, fd0, n0, fk3, fv3, fr3, fd3, n3, fk1, fv1, fr1, fd1, n1, fk2, fv2, fr2, fd2, n2, ft, fu, iu, a1, a2, a3, a4, a5, gc, gk, gv, gi, gh, made, dn, pe, so, fl, t1, t2, ct, ev, fe, d0, d1, d2, d3, i0, i1, i2, i3, rfl, rfl, rfl, IV_up hI⟩
  obtain ⟨⟨⟨l0, l3, l1, l2⟩, ⟨g0, g3, g1, g2⟩, q1, q2, q3, q4⟩, ⟨hpe, hct, hmd⟩, ⟨S0, K0, N0⟩, T1, T2, T12, TP⟩ := id hI
  have ne : (0 : Int32) ≠ 1 := by decide
  obtain ⟨p1, rfl⟩ := p1
  obtain ⟨p2, rfl⟩ := p2
  refine ⟨?_, same⟩
  rcases p1 with ⟨u, rfl⟩ | ⟨u, rfl, u3, rfl⟩ | ⟨u, rfl, u3, rfl⟩ | ⟨u, u2, rfl⟩
  · rcases p2 with ⟨v, rfl⟩ | ⟨v, v2⟩ | ⟨v, v2⟩ | ⟨v, v2⟩
    · rfl
    · exact ttf u v
    · exact ttf u v
    · exact ttf u v
  · rcases p2 with ⟨v, rfl⟩ | ⟨v, v2, v3, rfl⟩ | ⟨v, v2, v3, rfl⟩ | ⟨v, v2, v3, rfl⟩
    · exact ttf v u
    · exact get_same (T1 u3).1
    · exact absurd v2 ne
    · exact absurd ⟨rfl, u3⟩ v2
  · rcases p2 with ⟨v, rfl⟩ | ⟨v, v2, v3, rfl⟩ | ⟨v, v2, v3, rfl⟩ | ⟨v, v2, v3, rfl⟩
    · exact ttf v u
    · exact absurd v2.symm ne
    · exact get_same (T2 u3).1
    · exact absurd ⟨rfl, u3⟩ v3
  · rcases p2 with ⟨v, rfl⟩ | ⟨v, v2, v3, rfl⟩ | ⟨v, v2, v3, rfl⟩ | ⟨v, v2, v3, rfl⟩
    · exact ttf v u
    · exact absurd (Or.inl ⟨v2, v3⟩) u2
    · exact absurd (Or.inr ⟨v2, v3⟩) u2
    · rfl
theorem t_heldNext {c : Nat} {fk0 fv0 fr0 fd0 : Nat → Int32} {n0 : Nat} {fk3 fv3 fr3 fd3 : Nat → Int32} {n3 : Nat} {fk1 fv1 fr1 fd1 : Nat → Int32} {n1 : Nat} {fk2 fv2 fr2 fd2 : Nat → Int32} {n2 : Nat} {ft gc gk gv gi gh : Nat → Int32} {made : Nat} {dn pe t1 t2 : Bool} {ct : Int32} {d0 d1 d2 d3 i0 i1 i2 i3 : Nat → Nat} {A : Nat → Nat} {cI cZ cS : ClassId} {fu : Nat → Int32} {iu : Int32} {o a1 a2 a3 a4 a5 : Nat} {so fl : Bool} {ev fe : Int32} (hI : IV c fk0 fv0 fr0 fd0 n0 fk3 fv3 fr3 fd3 n3 fk1 fv1 fr1 fd1 n1 fk2 fv2 fr2 fd2 n2 ft gc gk gv gi gh made dn pe t1 t2 ct d0 d1 d2 d3 i0 i1 i2 i3) {slot key : Int32} {r1 r2 : Int32} {w1 w2 : va_W}
    (p1 : ((dn = true ∧ r1 = -1) ∨ (dn = false ∧ slot = 0 ∧ t1 = true ∧ r1 = (match lbK fk1 n1 key with | none => -4 | some i => fk1 i)) ∨ (dn = false ∧ slot = 1 ∧ t2 = true ∧ r1 = (match lbK fk2 n2 key with | none => -4 | some i => fk2 i)) ∨ (dn = false ∧ ¬ ((slot = 0 ∧ t1 = true) ∨ (slot = 1 ∧ t2 = true)) ∧ r1 = -3)) ∧ w1 = (wX A cI cZ cS fk0 fv0 fr0 fd0 (nI n0) fk3 fv3 fr3 fd3 (nI n3) fk1 fv1 fr1 fd1 (nI n1) fk2 fv2 fr2 fd2 (nI n2) ft fu iu (bi dn) (bi (pe && so)) (bi (pe && fl)) ct ev fe))
    (p2 : ((dn = true ∧ r2 = -1) ∨ (dn = false ∧ slot = 0 ∧ t1 = true ∧ r2 = (match lbK (sec gk 1) n1 key with | none => -4 | some i => sec gk 1 i)) ∨ (dn = false ∧ slot = 1 ∧ t2 = true ∧ r2 = (match lbK (sec gk 2) n2 key with | none => -4 | some i => sec gk 2 i)) ∨ (dn = false ∧ ¬ (slot = 0 ∧ t1 = true) ∧ ¬ (slot = 1 ∧ t2 = true) ∧ r2 = -3)) ∧ w2 = (wR o a1 a2 a3 a4 a5 cI cZ gc gk gv gi gh (nI made) (bi dn) (bi pe) (bi so) (bi fl) ct ev fe)) : r1 = r2 ∧ TI (c + 1) (A 0) o cI cZ cS w1 w2 := by
  have same : TI (c + 1) (A 0) o cI cZ cS (wX A cI cZ cS fk0 fv0 fr0 fd0 (nI n0) fk3 fv3 fr3 fd3 (nI n3) fk1 fv1 fr1 fd1 (nI n1) fk2 fv2 fr2 fd2 (nI n2) ft fu iu (bi dn) (bi (pe && so)) (bi (pe && fl)) ct ev fe) (wR o a1 a2 a3 a4 a5 cI cZ gc gk gv gi gh (nI made) (bi dn) (bi pe) (bi so) (bi fl) ct ev fe) := ⟨A, fk0, fv0, fr0, fd0, n0, fk3, fv3, fr3, fd3, n3, fk1, fv1, fr1, fd1, n1, fk2, fv2, fr2, fd2, n2, ft, fu, iu, a1, a2, a3, a4, a5, gc, gk, gv, gi, gh, made, dn, pe, so, fl, t1, t2, ct, ev, fe, d0, d1, d2, d3, i0, i1, i2, i3, rfl, rfl, rfl, IV_up hI⟩
  obtain ⟨⟨⟨l0, l3, l1, l2⟩, ⟨g0, g3, g1, g2⟩, q1, q2, q3, q4⟩, ⟨hpe, hct, hmd⟩, ⟨S0, K0, N0⟩, T1, T2, T12, TP⟩ := id hI
  have ne : (0 : Int32) ≠ 1 := by decide
  obtain ⟨p1, rfl⟩ := p1
  obtain ⟨p2, rfl⟩ := p2
  refine ⟨?_, same⟩
  rcases p1 with ⟨u, rfl⟩ | ⟨u, rfl, u3, rfl⟩ | ⟨u, rfl, u3, rfl⟩ | ⟨u, u2, rfl⟩
  · rcases p2 with ⟨v, rfl⟩ | ⟨v, v2⟩ | ⟨v, v2⟩ | ⟨v, v2⟩
    · rfl
    · exact ttf u v
    · exact ttf u v
    · exact ttf u v
  · rcases p2 with ⟨v, rfl⟩ | ⟨v, v2, v3, rfl⟩ | ⟨v, v2, v3, rfl⟩ | ⟨v, v2, v3, rfl⟩
    · exact ttf v u
    · exact next_same (T1 u3).1
    · exact absurd v2 ne
    · exact absurd ⟨rfl, u3⟩ v2
  · rcases p2 with ⟨v, rfl⟩ | ⟨v, v2, v3, rfl⟩ | ⟨v, v2, v3, rfl⟩ | ⟨v, v2, v3, rfl⟩
    · exact ttf v u
    · exact absurd v2.symm ne
    · exact next_same (T2 u3).1
    · exact absurd ⟨rfl, u3⟩ v3
  · rcases p2 with ⟨v, rfl⟩ | ⟨v, v2, v3, rfl⟩ | ⟨v, v2, v3, rfl⟩ | ⟨v, v2, v3, rfl⟩
    · exact ttf v u
    · exact absurd (Or.inl ⟨v2, v3⟩) u2
    · exact absurd (Or.inr ⟨v2, v3⟩) u2
    · rfl
theorem t_hold {c : Nat} {fk0 fv0 fr0 fd0 : Nat → Int32} {n0 : Nat} {fk3 fv3 fr3 fd3 : Nat → Int32} {n3 : Nat} {fk1 fv1 fr1 fd1 : Nat → Int32} {n1 : Nat} {fk2 fv2 fr2 fd2 : Nat → Int32} {n2 : Nat} {ft gc gk gv gi gh : Nat → Int32} {made : Nat} {dn pe t1 t2 : Bool} {ct : Int32} {d0 d1 d2 d3 i0 i1 i2 i3 : Nat → Nat} {A : Nat → Nat} {cI cZ cS : ClassId} {fu : Nat → Int32} {iu : Int32} {o a1 a2 a3 a4 a5 : Nat} {so fl : Bool} {ev fe : Int32} (hI : IV c fk0 fv0 fr0 fd0 n0 fk3 fv3 fr3 fd3 n3 fk1 fv1 fr1 fd1 n1 fk2 fv2 fr2 fd2 n2 ft gc gk gv gi gh made dn pe t1 t2 ct d0 d1 d2 d3 i0 i1 i2 i3) {slot : Int32} {r1 r2 : Int32} {w1 w2 : va_W}
    (p1 : ((dn = true ∨ ¬ (slot = 0 ∨ slot = 1) ∨ (slot = 0 ∧ t1 = true) ∨ (slot = 1 ∧ t2 = true)) ∧ r1 = 0 ∧ w1 = (wX A cI cZ cS fk0 fv0 fr0 fd0 (nI n0) fk3 fv3 fr3 fd3 (nI n3) fk1 fv1 fr1 fd1 (nI n1) fk2 fv2 fr2 fd2 (nI n2) ft fu iu (bi dn) (bi (pe && so)) (bi (pe && fl)) ct ev fe)) ∨ (dn = false ∧ slot = 0 ∧ t1 = false ∧ r1 = 1 ∧ w1 = (wX A cI cZ cS fk0 fv0 fr0 fd0 (nI n0) fk3 fv3 fr3 fd3 (nI n3) (va_cpy fk0 fk1 0 0 n0) (va_cpy fv0 fv1 0 0 n0) (va_cpy fr0 fr1 0 0 n0) (va_cpy fd0 fd1 0 0 n0) (nI n0) fk2 fv2 fr2 fd2 (nI n2) (upd ft 0 (nI 1)) fu iu (bi dn) (bi (pe && so)) (bi (pe && fl)) ct ev fe)) ∨ (dn = false ∧ slot = 1 ∧ t2 = false ∧ r1 = 1 ∧ w1 = (wX A cI cZ cS fk0 fv0 fr0 fd0 (nI n0) fk3 fv3 fr3 fd3 (nI n3) fk1 fv1 fr1 fd1 (nI n1) (va_cpy fk0 fk2 0 0 n0) (va_cpy fv0 fv2 0 0 n0) (va_cpy fr0 fr2 0 0 n0) (va_cpy fd0 fd2 0 0 n0) (nI n0) (upd ft 1 (nI 1)) fu iu (bi dn) (bi (pe && so)) (bi (pe && fl)) ct ev fe)))
    (p2 : ((dn = true ∨ ¬ (slot = 0 ∨ slot = 1) ∨ (slot = 0 ∧ t1 = true) ∨ (slot = 1 ∧ t2 = true)) ∧ r2 = 0 ∧ w2 = (wR o a1 a2 a3 a4 a5 cI cZ gc gk gv gi gh (nI made) (bi dn) (bi pe) (bi so) (bi fl) ct ev fe)) ∨ (dn = false ∧ slot = 0 ∧ t1 = false ∧ r2 = 1 ∧ w2 = (wR o a1 a2 a3 a4 a5 cI cZ (upd gc (0 + 1) (nI n0)) (va_cpy gk gk (31 * 0) (31 * (0 + 1)) n0) (va_cpy gv gv (31 * 0) (31 * (0 + 1)) n0) (va_cpy gi gi (31 * 0) (31 * (0 + 1)) n0) (upd gh (0 + 1) (nI 1)) (nI made) (bi dn) (bi pe) (bi so) (bi fl) ct ev fe)) ∨ (dn = false ∧ slot = 1 ∧ t2 = false ∧ r2 = 1 ∧ w2 = (wR o a1 a2 a3 a4 a5 cI cZ (upd gc (1 + 1) (nI n0)) (va_cpy gk gk (31 * 0) (31 * (1 + 1)) n0) (va_cpy gv gv (31 * 0) (31 * (1 + 1)) n0) (va_cpy gi gi (31 * 0) (31 * (1 + 1)) n0) (upd gh (1 + 1) (nI 1)) (nI made) (bi dn) (bi pe) (bi so) (bi fl) ct ev fe))) : r1 = r2 ∧ TI (c + 1) (A 0) o cI cZ cS w1 w2 := by
  have same : TI (c + 1) (A 0) o cI cZ cS (wX A cI cZ cS fk0 fv0 fr0 fd0 (nI n0) fk3 fv3 fr3 fd3 (nI n3) fk1 fv1 fr1 fd1 (nI n1) fk2 fv2 fr2 fd2 (nI n2) ft fu iu (bi dn) (bi (pe && so)) (bi (pe && fl)) ct ev fe) (wR o a1 a2 a3 a4 a5 cI cZ gc gk gv gi gh (nI made) (bi dn) (bi pe) (bi so) (bi fl) ct ev fe) := ⟨A, fk0, fv0, fr0, fd0, n0, fk3, fv3, fr3, fd3, n3, fk1, fv1, fr1, fd1, n1, fk2, fv2, fr2, fd2, n2, ft, fu, iu, a1, a2, a3, a4, a5, gc, gk, gv, gi, gh, made, dn, pe, so, fl, t1, t2, ct, ev, fe, d0, d1, d2, d3, i0, i1, i2, i3, rfl, rfl, rfl, IV_up hI⟩
  obtain ⟨⟨⟨l0, l3, l1, l2⟩, ⟨g0, g3, g1, g2⟩, q1, q2, q3, q4⟩, ⟨hpe, hct, hmd⟩, ⟨S0, K0, N0⟩, T1, T2, T12, TP⟩ := id hI
  have ne : (0 : Int32) ≠ 1 := by decide
  rcases p1 with ⟨u, rfl, rfl⟩ | ⟨u, rfl, u3, rfl, rfl⟩ | ⟨u, rfl, u3, rfl, rfl⟩
  · rcases p2 with ⟨v, rfl, rfl⟩ | ⟨v, rfl, v3, rfl, rfl⟩ | ⟨v, rfl, v3, rfl, rfl⟩
    · exact ⟨rfl, same⟩
    · rcases u with u | u | u | u
      · exact ttf u v
      · exact absurd (Or.inl rfl) u
      · exact ttf u.2 v3
      · exact absurd u.1 ne
    · rcases u with u | u | u | u
      · exact ttf u v
      · exact absurd (Or.inr rfl) u
      · exact absurd u.1.symm ne
      · exact ttf u.2 v3
  · rcases p2 with ⟨v, rfl, rfl⟩ | ⟨v, v2, v3, rfl, rfl⟩ | ⟨v, v2, v3, rfl, rfl⟩
    · rcases v with v | v | v | v
      · exact ttf v u
      · exact absurd (Or.inl rfl) v
      · exact ttf v.2 u3
      · exact absurd v.1 ne
    · exact ⟨rfl, A, fk0, fv0, fr0, fd0, n0, fk3, fv3, fr3, fd3, n3, va_cpy fk0 fk1 0 0 n0, va_cpy fv0 fv1 0 0 n0, va_cpy fr0 fr1 0 0 n0, va_cpy fd0 fd1 0 0 n0, n0, fk2, fv2, fr2, fd2, n2, upd ft 0 (nI 1), fu, iu, a1, a2, a3, a4, a5, upd gc (0 + 1) (nI n0), va_cpy gk gk (31 * 0) (31 * (0 + 1)) n0, va_cpy gv gv (31 * 0) (31 * (0 + 1)) n0, va_cpy gi gi (31 * 0) (31 * (0 + 1)) n0, upd gh (0 + 1) (nI 1), made, dn, pe, so, fl, true, t2, ct, ev, fe, d0, d0, d2, d3, i0, i0, i2, i3, rfl, rfl, rfl, ⟨⟨l0, l3, l0, l2⟩, ⟨(pk_un (by omega)).trans g0, (pk_un (by omega)).trans g3, pk_us, (pk_un (by omega)).trans g2⟩, pk_us, (pk_un (by omega)).trans q2, pk_us, (pk_un (by omega)).trans q4⟩, ⟨hpe, hct, by omega⟩, ⟨SD_to S0 (fun _ _ => rfl) (fun _ _ => rfl) (fun i hi => cpy_out (by omega) (by omega) (by omega)) (fun i hi => cpy_out (by omega) (by omega) (by omega)), K0, ND_to N0 (fun _ _ => rfl) (fun i hi => cpy_out (by omega) (by omega) (by omega)) (Nat.le_refl _)⟩, (fun _ => ⟨SD_to S0 (fun i hi => cpy00 hi) (fun i hi => cpy00 hi) (fun i hi => cpy_in hi) (fun i hi => cpy_in hi), ND_to N0 (fun i hi => cpy00 hi) (fun i hi => cpy_in hi) (Nat.le_refl _), fun i j hi hj => by rw [inj_iff N0.2.2.1 hi hj, inj_iff N0.2.2.2 hi hj]⟩), (fun h => ⟨SD_to (T2 h).1 (fun _ _ => rfl) (fun _ _ => rfl) (fun i hi => cpy_out (by omega) (by omega) (by omega)) (fun i hi => cpy_out (by omega) (by omega) (by omega)), ND_to (T2 h).2.1 (fun _ _ => rfl) (fun i hi => cpy_out (by omega) (by omega) (by omega)) (Nat.le_refl _), (T2 h).2.2⟩), (fun _ h => (T2 h).2.2), (fun h => by rw [hpe u] at h; cases h)⟩
    · exact absurd v2 ne
  · rcases p2 with ⟨v, rfl, rfl⟩ | ⟨v, v2, v3, rfl, rfl⟩ | ⟨v, v2, v3, rfl, rfl⟩
    · rcases v with v | v | v | v
      · exact ttf v u
      · exact absurd (Or.inr rfl) v
      · exact absurd v.1.symm ne
      · exact ttf v.2 u3
    · exact absurd v2.symm ne
    · exact ⟨rfl, A, fk0, fv0, fr0, fd0, n0, fk3, fv3, fr3, fd3, n3, fk1, fv1, fr1, fd1, n1, va_cpy fk0 fk2 0 0 n0, va_cpy fv0 fv2 0 0 n0, va_cpy fr0 fr2 0 0 n0, va_cpy fd0 fd2 0 0 n0, n0, upd ft 1 (nI 1), fu, iu, a1, a2, a3, a4, a5, upd gc (1 + 1) (nI n0), va_cpy gk gk (31 * 0) (31 * (1 + 1)) n0, va_cpy gv gv (31 * 0) (31 * (1 + 1)) n0, va_cpy gi gi (31 * 0) (31 * (1 + 1)) n0, upd gh (1 + 1) (nI 1), made, dn, pe, so, fl, t1, true, ct, ev, fe, d0, d1, d0, d3, i0, i1, i0, i3, rfl, rfl, rfl, ⟨⟨l0, l3, l1, l0⟩, ⟨(pk_un (by omega)).trans g0, (pk_un (by omega)).trans g3, (pk_un (by omega)).trans g1, pk_us⟩, (pk_un (by omega)).trans q1, pk_us, (pk_un (by omega)).trans q3, pk_us⟩, ⟨hpe, hct, by omega⟩, ⟨SD_to S0 (fun _ _ => rfl) (fun _ _ => rfl) (fun i hi => cpy_out (by omega) (by omega) (by omega)) (fun i hi => cpy_out (by omega) (by omega) (by omega)), K0, ND_to N0 (fun _ _ => rfl) (fun i hi => cpy_out (by omega) (by omega) (by omega)) (Nat.le_refl _)⟩, (fun h => ⟨SD_to (T1 h).1 (fun _ _ => rfl) (fun _ _ => rfl) (fun i hi => cpy_out (by omega) (by omega) (by omega)) (fun i hi => cpy_out (by omega) (by omega) (by omega)), ND_to (T1 h).2.1 (fun _ _ => rfl) (fun i hi => cpy_out (by omega) (by omega) (by omega)) (Nat.le_refl _), (T1 h).2.2⟩), (fun _ => ⟨SD_to S0 (fun i hi => cpy00 hi) (fun i hi => cpy00 hi) (fun i hi => cpy_in hi) (fun i hi => cpy_in hi), ND_to N0 (fun i hi => cpy00 hi) (fun i hi => cpy_in hi) (Nat.le_refl _), fun i j hi hj => by rw [inj_iff N0.2.2.1 hi hj, inj_iff N0.2.2.2 hi hj]⟩), (fun h _ i j hi hj => by rw [eq_comm, (T1 h).2.2 j i hj hi, eq_comm]), (fun h => by rw [hpe u] at h; cases h)⟩
theorem t_restart {c : Nat} {fk0 fv0 fr0 fd0 : Nat → Int32} {n0 : Nat} {fk3 fv3 fr3 fd3 : Nat → Int32} {n3 : Nat} {fk1 fv1 fr1 fd1 : Nat → Int32} {n1 : Nat} {fk2 fv2 fr2 fd2 : Nat → Int32} {n2 : Nat} {ft gc gk gv gi gh : Nat → Int32} {made : Nat} {dn pe t1 t2 : Bool} {ct : Int32} {d0 d1 d2 d3 i0 i1 i2 i3 : Nat → Nat} {A : Nat → Nat} {cI cZ cS : ClassId} {fu : Nat → Int32} {iu : Int32} {o a1 a2 a3 a4 a5 : Nat} {so fl : Bool} {ev fe : Int32} (hI : IV c fk0 fv0 fr0 fd0 n0 fk3 fv3 fr3 fd3 n3 fk1 fv1 fr1 fd1 n1 fk2 fv2 fr2 fd2 n2 ft gc gk gv gi gh made dn pe t1 t2 ct d0 d1 d2 d3 i0 i1 i2 i3) {ec : Bool} {r1 r2 : Int32} {w1 w2 : va_W}
    (p1 : (dn = false ∧ r1 = -3 ∧ w1 = (wX A cI cZ cS fk0 fv0 fr0 fd0 (nI n0) fk3 fv3 fr3 fd3 (nI n3) fk1 fv1 fr1 fd1 (nI n1) fk2 fv2 fr2 fd2 (nI n2) ft fu iu (bi dn) (bi (pe && so)) (bi (pe && fl)) ct ev fe)) ∨ (dn = true ∧ ((pe && fl) || ((pe && so) && ec)) = true ∧ r1 = nI n3 ∧ w1 = (wX A cI cZ cS (va_cpy fk3 fk0 0 0 n3) (va_cpy fv3 fv0 0 0 n3) (va_cpy fr3 fr0 0 0 n3) (va_cpy fd3 fd0 0 0 n3) (nI n3) fk3 fv3 fr3 fd3 (nI n3) fk1 fv1 fr1 fd1 (nI n1) fk2 fv2 fr2 fd2 (nI n2) (upd (upd ft 0 (nI 0)) (0 + 1) (nI 0)) fu iu (nI 0) (nI 0) (nI 0) ct ev fe)) ∨ (dn = true ∧ ((pe && fl) || ((pe && so) && ec)) = false ∧ r1 = nI n0 ∧ w1 = (wX A cI cZ cS fk0 fv0 fr0 fd0 (nI n0) fk3 fv3 fr3 fd3 (nI n3) fk1 fv1 fr1 fd1 (nI n1) fk2 fv2 fr2 fd2 (nI n2) (upd (upd ft 0 (nI 0)) (0 + 1) (nI 0)) fu iu (nI 0) (nI 0) (nI 0) ct ev fe)))
    (p2 : (dn = false ∧ r2 = -3 ∧ w2 = (wR o a1 a2 a3 a4 a5 cI cZ gc gk gv gi gh (nI made) (bi dn) (bi pe) (bi so) (bi fl) ct ev fe)) ∨ (dn = true ∧ (pe && (fl || (so && ec))) = true ∧ r2 = nI n3 ∧ w2 = (wR o a1 a2 a3 a4 a5 cI cZ (upd gc 0 (nI n3)) (va_cpy gk gk (31 * 3) (31 * 0) n3) (va_cpy gv gv (31 * 3) (31 * 0) n3) (va_cpy gi gi (31 * 3) (31 * 0) n3) (upd (upd gh 1 (nI 0)) 2 (nI 0)) (nI made) (nI 0) (nI 0) (bi so) (bi fl) ct ev fe)) ∨ (dn = true ∧ (pe && (fl || (so && ec))) = false ∧ r2 = nI n0 ∧ w2 = (wR o a1 a2 a3 a4 a5 cI cZ gc gk gv gi (upd (upd gh 1 (nI 0)) 2 (nI 0)) (nI made) (nI 0) (nI 0) (bi so) (bi fl) ct ev fe))) : r1 = r2 ∧ TI (c + 1) (A 0) o cI cZ cS w1 w2 := by
  have same : TI (c + 1) (A 0) o cI cZ cS (wX A cI cZ cS fk0 fv0 fr0 fd0 (nI n0) fk3 fv3 fr3 fd3 (nI n3) fk1 fv1 fr1 fd1 (nI n1) fk2 fv2 fr2 fd2 (nI n2) ft fu iu (bi dn) (bi (pe && so)) (bi (pe && fl)) ct ev fe) (wR o a1 a2 a3 a4 a5 cI cZ gc gk gv gi gh (nI made) (bi dn) (bi pe) (bi so) (bi fl) ct ev fe) := ⟨A, fk0, fv0, fr0, fd0, n0, fk3, fv3, fr3, fd3, n3, fk1, fv1, fr1, fd1, n1, fk2, fv2, fr2, fd2, n2, ft, fu, iu, a1, a2, a3, a4, a5, gc, gk, gv, gi, gh, made, dn, pe, so, fl, t1, t2, ct, ev, fe, d0, d1, d2, d3, i0, i1, i2, i3, rfl, rfl, rfl, IV_up hI⟩
  obtain ⟨⟨⟨l0, l3, l1, l2⟩, ⟨g0, g3, g1, g2⟩, q1, q2, q3, q4⟩, ⟨hpe, hct, hmd⟩, ⟨S0, K0, N0⟩, T1, T2, T12, TP⟩ := id hI
  have eb : ((pe && fl) || ((pe && so) && ec)) = (pe && (fl || (so && ec))) := by cases pe <;> rfl
  rw [eb] at p1
  rcases p1 with ⟨u, rfl, rfl⟩ | ⟨u, u2, rfl, rfl⟩ | ⟨u, u2, rfl, rfl⟩
  · rcases p2 with ⟨v, rfl, rfl⟩ | ⟨v, v2⟩ | ⟨v, v2⟩
    · exact ⟨rfl, same⟩
    · exact ttf v u
    · exact ttf v u
  · rcases p2 with ⟨v, v2⟩ | ⟨v, v2, rfl, rfl⟩ | ⟨v, v2, rfl, rfl⟩
    · exact ttf u v
    · have hp : pe = true := by
        cases hp : pe with
        | true => rfl
        | false => rw [hp] at u2; cases u2
      obtain ⟨S3, K3, N3⟩ := TP hp
      exact ⟨rfl, A, va_cpy fk3 fk0 0 0 n3, va_cpy fv3 fv0 0 0 n3, va_cpy fr3 fr0 0 0 n3, va_cpy fd3 fd0 0 0 n3, n3, fk3, fv3, fr3, fd3, n3, fk1, fv1, fr1, fd1, n1, fk2, fv2, fr2, fd2, n2, upd (upd ft 0 (nI 0)) (0 + 1) (nI 0), fu, iu, a1, a2, a3, a4, a5, upd gc 0 (nI n3), va_cpy gk gk (31 * 3) (31 * 0) n3, va_cpy gv gv (31 * 3) (31 * 0) n3, va_cpy gi gi (31 * 3) (31 * 0) n3, upd (upd gh 1 (nI 0)) 2 (nI 0), made, false, false, so, fl, false, false, ct, ev, fe, d3, d1, d2, d3, i3, i1, i2, i3, rfl, rfl, rfl, ⟨⟨l3, l3, l1, l2⟩, ⟨pk_us, (pk_un (by omega)).trans g3, (pk_un (by omega)).trans g1, (pk_un (by omega)).trans g2⟩, (pk_un (by omega)).trans pk_us, pk_us, (pk_un (by omega)).trans pk_us, pk_us⟩, ⟨fun _ => rfl, hct, by omega⟩, ⟨SD_to S3 (fun i hi => cpy00 hi) (fun i hi => cpy00 hi) (fun i hi => cpy_in hi) (fun i hi => cpy_in hi), RK_to K3 (fun i hi => cpy00 hi) (fun i hi => cpy00 hi), ND_to N3 (fun i hi => cpy00 hi) (fun i hi => cpy_in hi) (Nat.le_refl _)⟩, (fun q => absurd q (by decide)), (fun q => absurd q (by decide)), (fun q => absurd q (by decide)), (fun q => absurd q (by decide))⟩
    · exact ttf u2 v2
  · rcases p2 with ⟨v, v2⟩ | ⟨v, v2, rfl, rfl⟩ | ⟨v, v2, rfl, rfl⟩
    · exact ttf u v
    · exact ttf v2 u2
    · exact ⟨rfl, A, fk0, fv0, fr0, fd0, n0, fk3, fv3, fr3, fd3, n3, fk1, fv1, fr1, fd1, n1, fk2, fv2, fr2, fd2, n2, upd (upd ft 0 (nI 0)) (0 + 1) (nI 0), fu, iu, a1, a2, a3, a4, a5, gc, gk, gv, gi, upd (upd gh 1 (nI 0)) 2 (nI 0), made, false, false, so, fl, false, false, ct, ev, fe, d0, d1, d2, d3, i0, i1, i2, i3, rfl, rfl, rfl, ⟨⟨l0, l3, l1, l2⟩, ⟨g0, g3, g1, g2⟩, (pk_un (by omega)).trans pk_us, pk_us, (pk_un (by omega)).trans pk_us, pk_us⟩, ⟨fun _ => rfl, hct, by omega⟩, ⟨S0, K0, N0⟩, (fun q => absurd q (by decide)), (fun q => absurd q (by decide)), (fun q => absurd q (by decide)), (fun q => absurd q (by decide))⟩
