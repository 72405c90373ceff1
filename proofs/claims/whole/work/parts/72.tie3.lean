theorem SD_to {fk fv gk gv fk' fv' gk' gv' : Nat → Int32} {n s s' : Nat} (h : SD fk fv n gk gv s) (e1 : ∀ i, i < n → fk' i = fk i) (e2 : ∀ i, i < n → fv' i = fv i) (e3 : ∀ i, i < n → sec gk' s' i = sec gk s i) (e4 : ∀ i, i < n → sec gv' s' i = sec gv s i) : SD fk' fv' n gk' gv' s' :=
  ⟨fun i hi => by rw [e3 i hi, h.1 i hi, e1 i hi], fun i hi => by rw [e4 i hi, h.2.1 i hi, e2 i hi], fun i j hij hj => by rw [e1 i (by omega), e1 j hj]; exact h.2.2 i j hij hj⟩
theorem RK_to {fk fr fk' fr' : Nat → Int32} {n : Nat} (h : RK fk fr n) (e1 : ∀ i, i < n → fk' i = fk i) (e2 : ∀ i, i < n → fr' i = fr i) : RK fk' fr' n := fun i hi => by rw [e1 i hi, e2 i hi]; exact h i hi
theorem ND_to {fd fd' gi gi' : Nat → Int32} {d x : Nat → Nat} {n s s' made made' : Nat} (h : ND fd d n gi s x made) (e1 : ∀ i, i < n → fd' i = fd i) (e2 : ∀ i, i < n → sec gi' s' i = sec gi s i) (hm : made ≤ made') : ND fd' d n gi' s' x made' :=
  ⟨fun i hi => by rw [e1 i hi]; exact h.1 i hi, fun i hi => ⟨by rw [e2 i hi]; exact (h.2.1 i hi).1, Nat.le_trans (h.2.1 i hi).2 hm⟩, h.2.2⟩
theorem sec_lo {g g' : Nat → Int32} (h : ∀ x, x < 93 → g' x = g x) {s i : Nat} (hs : s < 3) (hi : i < 31) : sec g' s i = sec g s i := h _ (by omega)
theorem cpy00 {f g : Nat → Int32} {n i : Nat} (h : i < n) : va_cpy f g 0 0 n i = f i := sb_cpy0 h
theorem cpy_in {g : Nat → Int32} {a b n i : Nat} (h : i < n) : sec (va_cpy g g (31 * a) (31 * b) n) b i = sec g a i := by
  unfold sec va_cpy; rw [if_pos (by omega)]; congr 1; omega
theorem cpy_out {g : Nat → Int32} {a b s n i : Nat} (hn : n ≤ 31) (hi : i < 31) (h : s ≠ b) : sec (va_cpy g g (31 * a) (31 * b) n) s i = sec g s i := by
  unfold sec va_cpy; rw [if_neg (by omega)]
def IV (c : Nat) (fk0 fv0 fr0 fd0 : Nat → Int32) (n0 : Nat) (fk3 fv3 fr3 fd3 : Nat → Int32) (n3 : Nat) (fk1 fv1 fr1 fd1 : Nat → Int32) (n1 : Nat) (fk2 fv2 fr2 fd2 : Nat → Int32) (n2 : Nat) (ft gc gk gv gi gh : Nat → Int32) (made : Nat) (dn pe t1 t2 : Bool) (ct : Int32) (d0 d1 d2 d3 i0 i1 i2 i3 : Nat → Nat) : Prop :=
  ((n0 ≤ 30 ∧ n3 ≤ 30 ∧ n1 ≤ 30 ∧ n2 ≤ 30) ∧ (gc 0 = nI n0 ∧ gc 3 = nI n3 ∧ gc 1 = nI n1 ∧ gc 2 = nI n2) ∧ gh 1 = bi t1 ∧ gh 2 = bi t2 ∧ ft 0 = bi t1 ∧ ft 1 = bi t2) ∧ ((dn = false → pe = false) ∧ -1 ≤ ct ∧ made ≤ 31 * c) ∧ (SD fk0 fv0 n0 gk gv 0 ∧ RK fk0 fr0 n0 ∧ ND fd0 d0 n0 gi 0 i0 made) ∧ (t1 = true → SD fk1 fv1 n1 gk gv 1 ∧ ND fd1 d1 n1 gi 1 i1 made ∧ CR d0 n0 d1 n1 i0 i1) ∧ (t2 = true → SD fk2 fv2 n2 gk gv 2 ∧ ND fd2 d2 n2 gi 2 i2 made ∧ CR d0 n0 d2 n2 i0 i2) ∧ (t1 = true → t2 = true → CR d1 n1 d2 n2 i1 i2) ∧ (pe = true → SD fk3 fv3 n3 gk gv 3 ∧ RK fk3 fr3 n3 ∧ ND fd3 d3 n3 gi 3 i3 made)
/-- the two worlds behind c calls -/
def TI (c a o : Nat) (cI cZ cS : ClassId) (w1 w2 : va_W) : Prop :=
  ∃ (A : Nat → Nat) (fk0 fv0 fr0 fd0 : Nat → Int32) (n0 : Nat) (fk3 fv3 fr3 fd3 : Nat → Int32) (n3 : Nat) (fk1 fv1 fr1 fd1 : Nat → Int32) (n1 : Nat) (fk2 fv2 fr2 fd2 : Nat → Int32) (n2 : Nat) (ft fu : Nat → Int32) (iu : Int32) (a1 a2 a3 a4 a5 : Nat) (gc gk gv gi gh : Nat → Int32) (made : Nat) (dn pe so fl t1 t2 : Bool) (ct ev fe : Int32) (d0 d1 d2 d3 i0 i1 i2 i3 : Nat → Nat), A 0 = a ∧
    w1 = wX A cI cZ cS fk0 fv0 fr0 fd0 (nI n0) fk3 fv3 fr3 fd3 (nI n3) fk1 fv1 fr1 fd1 (nI n1) fk2 fv2 fr2 fd2 (nI n2) ft fu iu (bi dn) (bi (pe && so)) (bi (pe && fl)) ct ev fe ∧
    w2 = wR o a1 a2 a3 a4 a5 cI cZ gc gk gv gi gh (nI made) (bi dn) (bi pe) (bi so) (bi fl) ct ev fe ∧ IV c fk0 fv0 fr0 fd0 n0 fk3 fv3 fr3 fd3 n3 fk1 fv1 fr1 fd1 n1 fk2 fv2 fr2 fd2 n2 ft gc gk gv gi gh made dn pe t1 t2 ct d0 d1 d2 d3 i0 i1 i2 i3
theorem ct_neg {x : Int32} (h : -1 ≤ x) (h2 : x < 0) : x = -1 := by
  apply Int32.toInt_inj.mp
  have h3 := Int32.le_iff_toInt_le.mp h
  have h4 := Int32.lt_iff_toInt_lt.mp h2
  have e1 : (-1 : Int32).toInt = -1 := by decide
  have e0 : (0 : Int32).toInt = 0 := by decide
  omega
theorem ct_sub {x : Int32} {m : Nat} (hm : m < 2 ^ 30) (h : nI m ≤ x) : -1 ≤ x - nI m := by
  obtain ⟨j, hj, rfl⟩ := nI_of (x := x) (fun q => by
    have h1 := Int32.le_iff_toInt_le.mp h
    have h2 := Int32.lt_iff_toInt_lt.mp q
    rw [nI_toInt (by omega)] at h1
    have e0 : (0 : Int32).toInt = 0 := by decide
    omega)
  have h1 : m ≤ j := (nI_leI (by omega) hj).mp h
  rw [pk_sub h1]
  exact Int32.le_trans (show (-1 : Int32) ≤ 0 by decide) (nI_pos' (by omega))
theorem fe_cut {x fe : Int32} {m : Nat} (hm : m < 2 ^ 30) (h : ¬ x < 0) : (if nI (m + 1) ≤ x then fe + nI 1 else fe) = fe + bi (decide (nI m < x)) := by
  obtain ⟨j, hj, rfl⟩ := nI_of h
  by_cases hc : m < j
  · rw [if_pos ((nI_leI (by omega) hj).mpr (by omega)), decide_eq_true ((nI_ltI (by omega) hj).mpr hc)]; rfl
  · rw [if_neg (fun q => hc (by have := (nI_leI (by omega) hj).mp q; omega)), decide_eq_false (fun q => hc ((nI_ltI (by omega) hj).mp q))]
    show fe = fe + 0
    rw [Int32.add_zero]

theorem t_chg {c : Nat} {fk0 fv0 fr0 fd0 : Nat → Int32} {n0 : Nat} {fk3 fv3 fr3 fd3 : Nat → Int32} {n3 : Nat} {fk1 fv1 fr1 fd1 : Nat → Int32} {n1 : Nat} {fk2 fv2 fr2 fd2 : Nat → Int32} {n2 : Nat} {ft gc gk gv gi gh : Nat → Int32} {made : Nat} {dn pe t1 t2 : Bool} {ct : Int32} {d0 d1 d2 d3 i0 i1 i2 i3 : Nat → Nat} {A : Nat → Nat} {cI cZ cS : ClassId} {fu : Nat → Int32} {iu : Int32} {o a1 a2 a3 a4 a5 : Nat} {so fl : Bool} {ev fe : Int32} (hI : IV c fk0 fv0 fr0 fd0 n0 fk3 fv3 fr3 fd3 n3 fk1 fv1 fr1 fd1 n1 fk2 fv2 fr2 fd2 n2 ft gc gk gv gi gh made dn pe t1 t2 ct d0 d1 d2 d3 i0 i1 i2 i3) (hdn : dn = false) (hc : c ≤ 511) {fk4 fv4 fr4 fd4 : Nat → Int32} {n4 : Nat} {gc4 gk4 gv4 gi4 : Nat → Int32} (h4 : n4 ≤ 30) (ec : gc4 0 = gc 0 ∧ gc4 1 = gc 1 ∧ gc4 2 = gc 2 ∧ gc4 3 = nI n4) (ek : ∀ x, x < 93 → gk4 x = gk x) (ev4 : ∀ x, x < 93 → gv4 x = gv x) (ei : ∀ x, x < 93 → gi4 x = gi x) (s3 : SD fk4 fv4 n4 gk4 gv4 3) (r3 : RK fk4 fr4 n4) {r1 r2 : Int32} {w1 w2 : va_W}
    (p1 : chC A cI cZ cS fk0 fv0 fr0 fd0 n0 fk4 fv4 fr4 fd4 n4 fk1 fv1 fr1 fd1 n1 fk2 fv2 fr2 fd2 n2 ft fu iu (bi dn) (bi (pe && so)) (bi (pe && fl)) ct ev fe d0 d1 d2 t1 t2 r1 w1)
    (p2 : chR o a1 a2 a3 a4 a5 cI cZ gc4 gk4 gv4 gi4 gh (bi dn) (bi pe) (bi so) (bi fl) ct ev fe n0 n1 n2 n4 made t1 t2 r2 w2) : r1 = r2 ∧ TI (c + 1) (A 0) o cI cZ cS w1 w2 := by
  obtain ⟨⟨⟨l0, l3, l1, l2⟩, ⟨g0, g3, g1, g2⟩, q1, q2, q3, q4⟩, ⟨hpe, hct, hmd⟩, ⟨S0, K0, N0⟩, T1, T2, T12, TP⟩ := hI
  have hpz := hpe hdn
  subst hdn; subst hpz
  have S0' : SD fk0 fv0 n0 gk4 gv4 0 := SD_to S0 (fun _ _ => rfl) (fun _ _ => rfl) (fun i hi => sec_lo ek (by omega) (by omega)) (fun i hi => sec_lo ev4 (by omega) (by omega))
  have eN := nw_same s3 r3 S0' K0
  have eU : cntF (U3 d0 d1 d2 n0 n1 n2 t1 t2) 64 = useR gi4 n0 n1 n2 t1 t2 := by
    rw [useR_congr (g := gi) (by omega) (by omega) (by omega) ei]
    exact use_same (by omega) N0 (fun h => ⟨(T1 h).2.1, (T1 h).2.2⟩) (fun h => ⟨(T2 h).2.1, (T2 h).2.2⟩) T12
  have hN : nwR gk4 gv4 n4 n0 n4 ≤ n4 := cntF_le _ _
  unfold chC at p1
  unfold chR at p2
  rw [eN, eU] at p1
  have T1s : ∀ {gk5 gv5 : Nat → Int32}, (∀ i, i < 31 → sec gk5 1 i = sec gk 1 i) → (∀ i, i < 31 → sec gv5 1 i = sec gv 1 i) → t1 = true → SD fk1 fv1 n1 gk5 gv5 1 := fun b c h => SD_to (T1 h).1 (fun _ _ => rfl) (fun _ _ => rfl) (fun i hi => b i (by omega)) (fun i hi => c i (by omega))
  have T1n : ∀ {gi5 : Nat → Int32} {made' : Nat}, made ≤ made' → (∀ i, i < 31 → sec gi5 1 i = sec gi 1 i) → t1 = true → ND fd1 d1 n1 gi5 1 i1 made' := fun hm a h => ND_to (T1 h).2.1 (fun _ _ => rfl) (fun i hi => a i (by omega)) hm
  have T2s : ∀ {gk5 gv5 : Nat → Int32}, (∀ i, i < 31 → sec gk5 2 i = sec gk 2 i) → (∀ i, i < 31 → sec gv5 2 i = sec gv 2 i) → t2 = true → SD fk2 fv2 n2 gk5 gv5 2 := fun b c h => SD_to (T2 h).1 (fun _ _ => rfl) (fun _ _ => rfl) (fun i hi => b i (by omega)) (fun i hi => c i (by omega))
  have T2n : ∀ {gi5 : Nat → Int32} {made' : Nat}, made ≤ made' → (∀ i, i < 31 → sec gi5 2 i = sec gi 2 i) → t2 = true → ND fd2 d2 n2 gi5 2 i2 made' := fun hm a h => ND_to (T2 h).2.1 (fun _ _ => rfl) (fun i hi => a i (by omega)) hm
  have st_lo : ∀ {s i : Nat}, s < 3 → i < 31 → sec (stR gi4 gk4 gv4 n4 n0 made n4) s i = sec gi s i := fun hs hi => (setl_lo (by omega)).trans (ei _ (by omega))
  have k_lo : ∀ {s i : Nat}, s < 3 → i < 31 → sec gk4 s i = sec gk s i := fun hs hi => sec_lo ek hs hi
  have v_lo : ∀ {s i : Nat}, s < 3 → i < 31 → sec gv4 s i = sec gv s i := fun hs hi => sec_lo ev4 hs hi
  rcases p1 with ⟨u1, rfl, g, rfl⟩ | ⟨u1, gu, fe3, ju, hG, p1⟩
  · rcases p2 with ⟨u2, rfl, rfl⟩ | ⟨u2, -⟩ | ⟨u2, -⟩
    · refine ⟨rfl, A, fk0, fv0, fr0, fd0, n0, fk4, fv4, fr4, _, n4, fk1, fv1, fr1, fd1, n1, fk2, fv2, fr2, fd2, n2, ft, g, _, a1, a2, a3, a4, a5, gc4, gk4, gv4, _, gh, _, false, false, so, fl, t1, t2, ct, ev, fe, d0, d1, d2, d3, i0, i1, i2, i3, rfl, rfl, rfl, ?_⟩
      exact ⟨⟨⟨l0, h4, l1, l2⟩, ⟨ec.1.trans g0, ec.2.2.2, ec.2.1.trans g1, ec.2.2.1.trans g2⟩, q1, q2, q3, q4⟩, ⟨fun _ => rfl, hct, by omega⟩, ⟨S0', K0, ND_to N0 (fun _ _ => rfl) (fun i hi => st_lo (by omega) (by omega)) (by omega)⟩, fun h => ⟨T1s (fun i hi => k_lo (by omega) hi) (fun i hi => v_lo (by omega) hi) h, T1n (by omega) (fun i hi => st_lo (by omega) hi) h, (T1 h).2.2⟩, fun h => ⟨T2s (fun i hi => k_lo (by omega) hi) (fun i hi => v_lo (by omega) hi) h, T2n (by omega) (fun i hi => st_lo (by omega) hi) h, (T2 h).2.2⟩, T12, fun h => by cases h⟩
    · omega
    · omega
  · obtain ⟨d', x', ND', C1, C2⟩ := new_nodes (made := made) l0 h4 (by omega) N0 (fun h => ⟨fun i hi => ((T1 h).2.1.2.1 i hi).2, (T1 h).2.2⟩) (fun h => ⟨fun i hi => ((T2 h).2.1.2.1 i hi).2, (T2 h).2.2⟩) ei s3 r3 S0' K0 hG
    unfold doC at p1
    rcases p1 with ⟨u3, rfl, rfl⟩ | ⟨u3, u4, rfl, rfl⟩
    · rcases p2 with ⟨u2, -⟩ | ⟨u2, u5, rfl, rfl⟩ | ⟨u2, u5, u6, -⟩
      · omega
      · refine ⟨rfl, A, va_cpy fk4 fk0 0 0 n4, va_cpy fv4 fv0 0 0 n4, va_cpy fr4 fr0 0 0 n4, va_cpy fe3 fd0 0 0 n4, n4, fk4, fv4, fr4, fe3, n4, fk1, fv1, fr1, fd1, n1, fk2, fv2, fr2, fd2, n2, ft, gu, ju, a1, a2, a3, a4, a5, upd gc4 0 (nI n4), va_cpy gk4 gk4 (31 * 3) (31 * 0) n4, va_cpy gv4 gv4 (31 * 3) (31 * 0) n4, va_cpy (stR gi4 gk4 gv4 n4 n0 made n4) (stR gi4 gk4 gv4 n4 n0 made n4) (31 * 3) (31 * 0) n4, gh, made + nwR gk4 gv4 n4 n0 n4, false, false, so, fl, t1, t2, (if ct = -1 then ct else ct - nI (5 * nwR gk4 gv4 n4 n0 n4 + 4)), ev + nI (5 * nwR gk4 gv4 n4 n0 n4 + 4), fe + nI 1 + nI 1, d', d1, d2, d3, x', i1, i2, i3, rfl, ?_, ?_, ?_⟩
        · rfl
        · have e1 : (if ct < 0 then (-1 : Int32) else ct - nI (5 * nwR gk4 gv4 n4 n0 n4 + 4)) = (if ct = -1 then ct else ct - nI (5 * nwR gk4 gv4 n4 n0 n4 + 4)) := by
            by_cases e : ct = -1
            · rw [if_pos e, if_pos (by rw [e]; decide), e]
            · rw [if_neg e, if_neg (fun q => e (ct_neg hct q))]
          have e2 : fe + nI 2 = fe + nI 1 + nI 1 := by rw [Int32.add_assoc]; rfl
          rw [e1, e2]
        · refine ⟨⟨⟨h4, h4, l1, l2⟩, ⟨pk_us, (pk_un (by omega)).trans ec.2.2.2, (pk_un (by omega)).trans (ec.2.1.trans g1), (pk_un (by omega)).trans (ec.2.2.1.trans g2)⟩, q1, q2, q3, q4⟩, ⟨fun _ => rfl, ?_, by omega⟩, ⟨SD_to s3 (fun i hi => cpy00 hi) (fun i hi => cpy00 hi) (fun i hi => cpy_in hi) (fun i hi => cpy_in hi), RK_to r3 (fun i hi => cpy00 hi) (fun i hi => cpy00 hi), ND_to ND' (fun i hi => cpy00 hi) (fun i hi => cpy_in hi) (Nat.le_refl _)⟩, fun h => ⟨T1s (fun i hi => (cpy_out (by omega) hi (by omega)).trans (k_lo (by omega) hi)) (fun i hi => (cpy_out (by omega) hi (by omega)).trans (v_lo (by omega) hi)) h, T1n (by omega) (fun i hi => (cpy_out (by omega) hi (by omega)).trans (st_lo (by omega) hi)) h, C1 h⟩, fun h => ⟨T2s (fun i hi => (cpy_out (by omega) hi (by omega)).trans (k_lo (by omega) hi)) (fun i hi => (cpy_out (by omega) hi (by omega)).trans (v_lo (by omega) hi)) h, T2n (by omega) (fun i hi => (cpy_out (by omega) hi (by omega)).trans (st_lo (by omega) hi)) h, C2 h⟩, T12, fun h => by cases h⟩
          by_cases e : ct = -1
          · rw [if_pos e, e]; decide
          · rw [if_neg e]
            rcases u3 with q | q
            · exact absurd q e
            · exact ct_sub (by omega) q
      · rcases u3 with q | q
        · exact absurd (by rw [q]; decide) u5
        · exact absurd u6 (Int32.not_lt.mpr q)
    · rcases p2 with ⟨u2, -⟩ | ⟨u2, u5, -⟩ | ⟨u2, u5, u6, rfl, rfl⟩
      · omega
      · rcases u5 with q | q
        · exact absurd (ct_neg hct q) u3
        · exact absurd u4 (Int32.not_lt.mpr q)
      · refine ⟨rfl, A, fk0, fv0, fr0, fd0, n0, fk4, fv4, fr4, fe3, n4, fk1, fv1, fr1, fd1, n1, fk2, fv2, fr2, fd2, n2, ft, gu, ju, a1, a2, a3, a4, a5, gc4, gk4, gv4, stR gi4 gk4 gv4 n4 n0 made n4, gh, made + nwR gk4 gv4 n4 n0 n4, true, true, decide (nI (5 * nwR gk4 gv4 n4 n0 n4 + 2) ≤ ct), decide (nI (5 * nwR gk4 gv4 n4 n0 n4 + 3) ≤ ct), t1, t2, -1, ev + ct, (if nI (5 * nwR gk4 gv4 n4 n0 n4 + 1) ≤ ct then fe + nI 1 else fe), d0, d1, d2, d', i0, i1, i2, x', rfl, rfl, ?_, ?_⟩
        · rw [fe_cut (by omega) u5]; rfl
        · exact ⟨⟨⟨l0, h4, l1, l2⟩, ⟨ec.1.trans g0, ec.2.2.2, ec.2.1.trans g1, ec.2.2.1.trans g2⟩, q1, q2, q3, q4⟩, ⟨fun h => absurd h (by decide), by decide, by omega⟩, ⟨S0', K0, ND_to N0 (fun _ _ => rfl) (fun i hi => st_lo (by omega) (by omega)) (by omega)⟩, fun h => ⟨T1s (fun i hi => k_lo (by omega) hi) (fun i hi => v_lo (by omega) hi) h, T1n (by omega) (fun i hi => st_lo (by omega) hi) h, (T1 h).2.2⟩, fun h => ⟨T2s (fun i hi => k_lo (by omega) hi) (fun i hi => v_lo (by omega) hi) h, T2n (by omega) (fun i hi => st_lo (by omega) hi) h, (T2 h).2.2⟩, T12, fun _ => ⟨s3, r3, ND'⟩⟩
