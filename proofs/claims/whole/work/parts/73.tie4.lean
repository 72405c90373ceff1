theorem IV_up {c : Nat} {fk0 fv0 fr0 fd0 : Nat → Int32} {n0 : Nat} {fk3 fv3 fr3 fd3 : Nat → Int32} {n3 : Nat} {fk1 fv1 fr1 fd1 : Nat → Int32} {n1 : Nat} {fk2 fv2 fr2 fd2 : Nat → Int32} {n2 : Nat} {ft gc gk gv gi gh : Nat → Int32} {made : Nat} {dn pe t1 t2 : Bool} {ct : Int32} {d0 d1 d2 d3 i0 i1 i2 i3 : Nat → Nat} (h : IV c fk0 fv0 fr0 fd0 n0 fk3 fv3 fr3 fd3 n3 fk1 fv1 fr1 fd1 n1 fk2 fv2 fr2 fd2 n2 ft gc gk gv gi gh made dn pe t1 t2 ct d0 d1 d2 d3 i0 i1 i2 i3) : IV (c + 1) fk0 fv0 fr0 fd0 n0 fk3 fv3 fr3 fd3 n3 fk1 fv1 fr1 fd1 n1 fk2 fv2 fr2 fd2 n2 ft gc gk gv gi gh made dn pe t1 t2 ct d0 d1 d2 d3 i0 i1 i2 i3 := ⟨h.1, ⟨h.2.1.1, h.2.1.2.1, by have := h.2.1.2.2; omega⟩, h.2.2⟩
theorem fstF_is {q : Nat → Bool} {p : Nat} : ∀ n, p ≤ n → (∀ j, p ≤ j → j < n → q j = true) → (p = 0 ∨ q (p - 1) = false) → fstF q n = p
  | 0, h, _, _ => by have : p = 0 := by omega
                     subst this; rfl
  | n + 1, h, h1, h2 => by
    by_cases hp : p = n + 1
    · rcases h2 with h2 | h2
      · omega
      · have e : p - 1 = n := by omega
        rw [e] at h2
        rw [fstF_stop h2, hp]
    · rw [fstF_hit (h1 n (by omega) (Nat.lt_succ_self n))]
      exact fstF_is n (by omega) (fun j a b => h1 j a (by omega)) h2
theorem cpy3 {g : Nat → Int32} {n j : Nat} (h : j < n) : va_cpy g g (31 * 0) (31 * 3) n (93 + j) = sec g 0 j := by
  unfold sec va_cpy; rw [if_pos (by omega)]; congr 1; omega
theorem cpy3o {g : Nat → Int32} {n x : Nat} (h : x < 93) : va_cpy g g (31 * 0) (31 * 3) n x = g x := by unfold va_cpy; rw [if_neg (by omega)]
theorem ins_sec {g f f3 : Nat → Int32} {n p : Nat} {x : Int32} (hp : p ≤ n) (h : ∀ i, i < n → sec g 0 i = f i) {i : Nat} (hi : i < n + 1) : sec (insF (va_cpy g g (31 * 0) (31 * 3) n) (93 + p) (93 + n) x) 3 i = insF (va_cpy f f3 0 0 n) p n x i := by
  show insF _ _ _ _ (93 + i) = _
  unfold insF
  by_cases h1 : i = p
  · rw [if_pos (show 93 + i = 93 + p by omega), if_pos h1]
  · rw [if_neg (show ¬ 93 + i = 93 + p by omega), if_neg h1]
    by_cases h2 : p < i
    · rw [if_pos (show 93 + p < 93 + i ∧ 93 + i ≤ 93 + n from ⟨by omega, by omega⟩), if_pos (show p < i ∧ i ≤ n from ⟨h2, by omega⟩), show 93 + i - 1 = 93 + (i - 1) by omega, cpy3 (by omega), h (i - 1) (by omega), cpy00 (by omega)]
    · rw [if_neg (show ¬ (93 + p < 93 + i ∧ 93 + i ≤ 93 + n) by omega), if_neg (show ¬ (p < i ∧ i ≤ n) by omega), cpy3 (by omega), h i (by omega), cpy00 (by omega)]
theorem del_sec {g f f3 : Nat → Int32} {n a : Nat} (h : ∀ i, i < n → sec g 0 i = f i) {i : Nat} (hi : i < n - 1) : sec (sdF (va_cpy g g (31 * 0) (31 * 3) n) (93 + a) (93 + (n - 1))) 3 i = sdF (va_cpy f f3 0 0 n) a (n - 1) i := by
  show sdF _ _ _ (93 + i) = _
  unfold sdF
  by_cases h2 : a ≤ i
  · rw [if_pos (show 93 + a ≤ 93 + i ∧ 93 + i < 93 + (n - 1) from ⟨by omega, by omega⟩), if_pos (show a ≤ i ∧ i < n - 1 from ⟨h2, hi⟩), show 93 + i + 1 = 93 + (i + 1) from rfl, cpy3 (by omega), h (i + 1) (by omega), cpy00 (by omega)]
  · rw [if_neg (show ¬ (93 + a ≤ 93 + i ∧ 93 + i < 93 + (n - 1)) by omega), if_neg (show ¬ (a ≤ i ∧ i < n - 1) by omega), cpy3 (by omega), h i (by omega), cpy00 (by omega)]
theorem inc_ins {f f3 : Nat → Int32} {n p : Nat} {x : Int32} (hp : p ≤ n) (hf : inc f n) (h1 : ∀ j, j < p → f j < x) (h2 : ∀ j, p ≤ j → j < n → x < f j) : inc (insF (va_cpy f f3 0 0 n) p n x) (n + 1) := by
  have at_ : ∀ i, i < n + 1 → insF (va_cpy f f3 0 0 n) p n x i = if i = p then x else if p < i then f (i - 1) else f i := by
    intro i hi
    unfold insF
    by_cases e : i = p
    · rw [if_pos e, if_pos e]
    · rw [if_neg e, if_neg e]
      by_cases e2 : p < i
      · rw [if_pos ⟨e2, by omega⟩, if_pos e2, cpy00 (by omega)]
      · rw [if_neg (by omega), if_neg e2, cpy00 (by omega)]
  intro i j hij hj
  rw [at_ i (by omega), at_ j hj]
  by_cases ei : i = p
  · rw [if_pos ei, if_neg (by omega), if_pos (by omega)]
    exact h2 (j - 1) (by omega) (by omega)
  · rw [if_neg ei]
    by_cases ej : j = p
    · rw [if_pos ej, if_neg (by omega)]
      exact h1 i (by omega)
    · rw [if_neg ej]
      by_cases e1 : p < i
      · rw [if_pos e1, if_pos (by omega)]
        exact hf (i - 1) (j - 1) (by omega) (by omega)
      · rw [if_neg e1]
        by_cases e2 : p < j
        · rw [if_pos e2]
          exact hf i (j - 1) (by omega) (by omega)
        · rw [if_neg e2]
          exact hf i j hij (by omega)
theorem inc_del {f f3 : Nat → Int32} {n a : Nat} (hf : inc f n) : inc (sdF (va_cpy f f3 0 0 n) a (n - 1)) (n - 1) := by
  have at_ : ∀ i, i < n - 1 → sdF (va_cpy f f3 0 0 n) a (n - 1) i = if a ≤ i then f (i + 1) else f i := by
    intro i hi
    unfold sdF
    by_cases e2 : a ≤ i
    · rw [if_pos ⟨e2, hi⟩, if_pos e2, cpy00 (by omega)]
    · rw [if_neg (by omega), if_neg e2, cpy00 (by omega)]
  intro i j hij hj
  rw [at_ i (by omega), at_ j hj]
  by_cases e1 : a ≤ i
  · rw [if_pos e1, if_pos (by omega)]; exact hf (i + 1) (j + 1) (by omega) (by omega)
  · rw [if_neg e1]
    by_cases e2 : a ≤ j
    · rw [if_pos e2]; exact hf i (j + 1) (by omega) (by omega)
    · rw [if_neg e2]; exact hf i j hij (by omega)
theorem lbN_lo {f : Nat → Int32} {n j : Nat} {x : Int32} (h : j < lbN f n x) : f j < x := by
  unfold lbN at h
  cases hl : lbK f n x with
  | none => rw [hl] at h; exact Int32.not_le.mp (of_decide_eq_false (fndF_none n 0 hl j (Nat.zero_le _) (by have h : j < n := h; omega)))
  | some i => rw [hl] at h; exact Int32.not_le.mp (of_decide_eq_false ((fndF_some n 0 i hl).2.2.2 j (Nat.zero_le _) h))
theorem lbN_hi {f : Nat → Int32} {n j : Nat} {x : Int32} (hf : inc f n) (hn : fnK f n x = none) (h : lbN f n x ≤ j) (hj : j < n) : x < f j := by
  have hne := fnK_none hn
  unfold lbN at h
  cases hl : lbK f n x with
  | none => rw [hl] at h; have h : n ≤ j := h; omega
  | some i =>
    rw [hl] at h
    have h : i ≤ j := h
    have h1 : x ≤ f i := of_decide_eq_true (fndF_some n 0 i hl).2.2.1
    have h2 : x < f i := Int32.lt_of_le_of_ne h1 (fun e => hne i (by omega) e.symm)
    by_cases e : i = j
    · subst e; exact h2
    · exact Int32.lt_trans h2 (hf i j (by omega) hj)
theorem t_put {c : Nat} {fk0 fv0 fr0 fd0 : Nat → Int32} {n0 : Nat} {fk3 fv3 fr3 fd3 : Nat → Int32} {n3 : Nat} {fk1 fv1 fr1 fd1 : Nat → Int32} {n1 : Nat} {fk2 fv2 fr2 fd2 : Nat → Int32} {n2 : Nat} {ft gc gk gv gi gh : Nat → Int32} {made : Nat} {dn pe t1 t2 : Bool} {ct : Int32} {d0 d1 d2 d3 i0 i1 i2 i3 : Nat → Nat} {A : Nat → Nat} {cI cZ cS : ClassId} {fu : Nat → Int32} {iu : Int32} {o a1 a2 a3 a4 a5 : Nat} {so fl : Bool} {ev fe : Int32} (hI : IV c fk0 fv0 fr0 fd0 n0 fk3 fv3 fr3 fd3 n3 fk1 fv1 fr1 fd1 n1 fk2 fv2 fr2 fd2 n2 ft gc gk gv gi gh made dn pe t1 t2 ct d0 d1 d2 d3 i0 i1 i2 i3) (hc : c ≤ 511) {key value r1 r2 : Int32} {w1 w2 : va_W} (p1 : puC A cI cZ cS fk0 fv0 fr0 fd0 n0 fk3 fv3 fr3 fd3 n3 fk1 fv1 fr1 fd1 n1 fk2 fv2 fr2 fd2 n2 ft fu iu dn (pe && so) (pe && fl) ct ev fe d0 d1 d2 t1 t2 key value r1 w1) (p2 : puR o a1 a2 a3 a4 a5 cI cZ gc gk gv gi gh ct ev fe dn pe so fl n0 n1 n2 made t1 t2 key value r2 w2) : r1 = r2 ∧ TI (c + 1) (A 0) o cI cZ cS w1 w2 := by
  have same : TI (c + 1) (A 0) o cI cZ cS (wX A cI cZ cS fk0 fv0 fr0 fd0 (nI n0) fk3 fv3 fr3 fd3 (nI n3) fk1 fv1 fr1 fd1 (nI n1) fk2 fv2 fr2 fd2 (nI n2) ft fu iu (bi dn) (bi (pe && so)) (bi (pe && fl)) ct ev fe) (wR o a1 a2 a3 a4 a5 cI cZ gc gk gv gi gh (nI made) (bi dn) (bi pe) (bi so) (bi fl) ct ev fe) := ⟨A, fk0, fv0, fr0, fd0, n0, fk3, fv3, fr3, fd3, n3, fk1, fv1, fr1, fd1, n1, fk2, fv2, fr2, fd2, n2, ft, fu, iu, a1, a2, a3, a4, a5, gc, gk, gv, gi, gh, made, dn, pe, so, fl, t1, t2, ct, ev, fe, d0, d1, d2, d3, i0, i1, i2, i3, rfl, rfl, rfl, IV_up hI⟩
  obtain ⟨⟨⟨l0, l3, l1, l2⟩, ⟨g0, g3, g1, g2⟩, q1, q2, q3, q4⟩, ⟨hpe, hct, hmd⟩, ⟨S0, K0, N0⟩, T1, T2, T12, TP⟩ := id hI
  have eF : fnK (sec gk 0) n0 key = fnK fk0 n0 key := fnK_congr S0.1
  unfold puC at p1
  unfold puR at p2
  rcases p1 with ⟨u1, rfl, rfl⟩ | ⟨u1, u2, rfl, rfl⟩ | ⟨u1, u2, p1⟩
  · rcases p2 with ⟨v1, rfl, rfl⟩ | ⟨v1, -⟩ | ⟨v1, -⟩
    · exact ⟨rfl, same⟩
    · rw [u1] at v1; cases v1
    · rw [u1] at v1; cases v1
  · rcases p2 with ⟨v1, -⟩ | ⟨v1, v2, rfl, rfl⟩ | ⟨v1, v2, -⟩
    · rw [u1] at v1; cases v1
    · exact ⟨rfl, same⟩
    · exact absurd ⟨⟨v2.1, Int32.not_lt.mpr v2.2.1⟩, v2.2.2.1, Int32.not_lt.mpr v2.2.2.2⟩ u2
  · rcases p2 with ⟨v1, -⟩ | ⟨v1, v2, -⟩ | ⟨v1, v2, p2⟩
    · rw [u1] at v1; cases v1
    · rcases v2 with v | v | v | v
      · exact absurd v u2.1.1
      · exact absurd v u2.1.2
      · exact absurd v u2.2.1
      · exact absurd v u2.2.2
    · rw [eF] at p2
      rcases hq : fnK fk0 n0 key with _ | a
      · rw [hq] at p1 p2
        rcases p1 with ⟨x, z, -⟩ | ⟨x, z, -⟩ | ⟨-, z, rfl, rfl⟩ | ⟨-, z, p1⟩
        · cases z
        · cases z
        · rcases p2 with ⟨x, y, -⟩ | ⟨x, y, -⟩ | ⟨-, y, rfl, rfl⟩ | ⟨-, y, -⟩
          · cases y
          · cases y
          · exact ⟨rfl, same⟩
          · omega
        · rcases p2 with ⟨x, y, -⟩ | ⟨x, y, -⟩ | ⟨-, y, -⟩ | ⟨-, y, p2⟩
          · cases y
          · cases y
          · omega
          · have ep : lbN (va_cpy fk0 fk3 0 0 n0) n0 key = lbN fk0 n0 key := by unfold lbN; rw [lbK_congr (K' := fk0) (fun i hi => cpy00 hi)]
            have hle := lbN_le fk0 n0 key
            have eq : fstF (fun j => decide (key < sec gk 0 j)) n0 = lbN fk0 n0 key := by
              refine fstF_is n0 hle (fun j h1 h2 => decide_eq_true (by rw [S0.1 j h2]; exact lbN_hi S0.2.2 hq h1 h2)) ?_
              by_cases e0 : lbN fk0 n0 key = 0
              · exact Or.inl e0
              · refine Or.inr (decide_eq_false ?_)
                rw [S0.1 _ (by omega)]
                exact Int32.not_lt.mpr (Int32.le_of_lt (lbN_lo (show lbN fk0 n0 key - 1 < lbN fk0 n0 key by omega)))
            rw [ep] at p1
            rw [eq] at p2
            refine t_chg hI u1 hc (n4 := n0 + 1) (by omega) ⟨(pk_un (by omega)).trans (pk_un (by omega)), (pk_un (by omega)).trans (pk_un (by omega)), (pk_un (by omega)).trans (pk_un (by omega)), pk_us⟩ (fun x hx => ?_) (fun x hx => ?_) (fun x hx => cpy3o hx) ⟨fun i hi => ins_sec hle S0.1 hi, fun i hi => ins_sec hle S0.2.1 hi, inc_ins hle S0.2.2 (fun j hj => lbN_lo hj) (fun j h1 h2 => lbN_hi S0.2.2 hq h1 h2)⟩ (fun i hi => ?_) p1 p2
            · unfold insF; rw [if_neg (by omega), if_neg (by omega)]; exact cpy3o hx
            · unfold insF; rw [if_neg (by omega), if_neg (by omega)]; exact cpy3o hx
            · unfold insF
              dsimp only
              by_cases e : i = lbN fk0 n0 key
              · rw [if_pos e, if_pos e]
              · rw [if_neg e, if_neg e]
                by_cases e2 : lbN fk0 n0 key < i
                · rw [if_pos ⟨e2, by omega⟩, if_pos ⟨e2, by omega⟩, cpy00 (by omega), cpy00 (by omega)]; exact K0 _ (by omega)
                · rw [if_neg (by omega), if_neg (by omega), cpy00 (by omega), cpy00 (by omega)]; exact K0 _ (by omega)
      · rw [hq] at p1 p2
        have ha := (fnK_some hq).1
        rcases p1 with ⟨x, z, z2, rfl, rfl⟩ | ⟨x, z, z2, p1⟩ | ⟨z, -⟩ | ⟨z, -⟩
        · cases z
          rcases p2 with ⟨x, y, y2, rfl, rfl⟩ | ⟨x, y, y2, -⟩ | ⟨y, -⟩ | ⟨y, -⟩
          · exact ⟨rfl, same⟩
          · cases y; rw [S0.2.1 a ha] at y2; exact absurd z2 y2
          · cases y
          · cases y
        · cases z
          rcases p2 with ⟨x, y, y2, -⟩ | ⟨x, y, y2, p2⟩ | ⟨y, -⟩ | ⟨y, -⟩
          · cases y; rw [S0.2.1 a ha] at y2; exact absurd y2 z2
          · cases y
            refine t_chg hI u1 hc (n4 := n0) l0 ⟨pk_un (by omega), pk_un (by omega), pk_un (by omega), pk_us⟩ (fun x hx => cpy3o hx) (fun x hx => (pk_un (by omega)).trans (cpy3o hx)) (fun x hx => cpy3o hx) ⟨fun i hi => ?_, fun i hi => ?_, ?_⟩ (fun i hi => ?_) p1 p2
            · rw [cpy00 hi]; exact (cpy3 hi).trans (S0.1 i hi)
            · by_cases e : i = a
              · subst e; rw [pk_us]; exact pk_us
              · rw [pk_un e, cpy00 hi]; exact (pk_un (by omega)).trans ((cpy3 hi).trans (S0.2.1 i hi))
            · intro i j hij hj; rw [cpy00 (by omega), cpy00 hj]; exact S0.2.2 i j hij hj
            · rw [cpy00 hi, cpy00 hi]; exact K0 i hi
          · cases y
          · cases y
        · cases z
        · cases z
theorem t_rem {c : Nat} {fk0 fv0 fr0 fd0 : Nat → Int32} {n0 : Nat} {fk3 fv3 fr3 fd3 : Nat → Int32} {n3 : Nat} {fk1 fv1 fr1 fd1 : Nat → Int32} {n1 : Nat} {fk2 fv2 fr2 fd2 : Nat → Int32} {n2 : Nat} {ft gc gk gv gi gh : Nat → Int32} {made : Nat} {dn pe t1 t2 : Bool} {ct : Int32} {d0 d1 d2 d3 i0 i1 i2 i3 : Nat → Nat} {A : Nat → Nat} {cI cZ cS : ClassId} {fu : Nat → Int32} {iu : Int32} {o a1 a2 a3 a4 a5 : Nat} {so fl : Bool} {ev fe : Int32} (hI : IV c fk0 fv0 fr0 fd0 n0 fk3 fv3 fr3 fd3 n3 fk1 fv1 fr1 fd1 n1 fk2 fv2 fr2 fd2 n2 ft gc gk gv gi gh made dn pe t1 t2 ct d0 d1 d2 d3 i0 i1 i2 i3) (hc : c ≤ 511) {key r1 r2 : Int32} {w1 w2 : va_W} (p1 : rmC A cI cZ cS fk0 fv0 fr0 fd0 n0 fk3 fv3 fr3 fd3 n3 fk1 fv1 fr1 fd1 n1 fk2 fv2 fr2 fd2 n2 ft fu iu dn (pe && so) (pe && fl) ct ev fe d0 d1 d2 t1 t2 key r1 w1) (p2 : rmR o a1 a2 a3 a4 a5 cI cZ gc gk gv gi gh ct ev fe dn pe so fl n0 n1 n2 made t1 t2 key r2 w2) : r1 = r2 ∧ TI (c + 1) (A 0) o cI cZ cS w1 w2 := by
  have same : TI (c + 1) (A 0) o cI cZ cS (wX A cI cZ cS fk0 fv0 fr0 fd0 (nI n0) fk3 fv3 fr3 fd3 (nI n3) fk1 fv1 fr1 fd1 (nI n1) fk2 fv2 fr2 fd2 (nI n2) ft fu iu (bi dn) (bi (pe && so)) (bi (pe && fl)) ct ev fe) (wR o a1 a2 a3 a4 a5 cI cZ gc gk gv gi gh (nI made) (bi dn) (bi pe) (bi so) (bi fl) ct ev fe) := ⟨A, fk0, fv0, fr0, fd0, n0, fk3, fv3, fr3, fd3, n3, fk1, fv1, fr1, fd1, n1, fk2, fv2, fr2, fd2, n2, ft, fu, iu, a1, a2, a3, a4, a5, gc, gk, gv, gi, gh, made, dn, pe, so, fl, t1, t2, ct, ev, fe, d0, d1, d2, d3, i0, i1, i2, i3, rfl, rfl, rfl, IV_up hI⟩
  obtain ⟨⟨⟨l0, l3, l1, l2⟩, ⟨g0, g3, g1, g2⟩, q1, q2, q3, q4⟩, ⟨hpe, hct, hmd⟩, ⟨S0, K0, N0⟩, T1, T2, T12, TP⟩ := id hI
  have eF : fnK (sec gk 0) n0 key = fnK fk0 n0 key := fnK_congr S0.1
  unfold rmC at p1
  unfold rmR at p2
  rw [eF] at p2
  rcases p1 with ⟨u1, rfl, rfl⟩ | ⟨u1, u2, rfl, rfl⟩ | ⟨u1, a, u2, p1⟩
  · rcases p2 with ⟨v1, rfl, rfl⟩ | ⟨v1, -⟩ | ⟨v1, -⟩
    · exact ⟨rfl, same⟩
    · rw [u1] at v1; cases v1
    · rw [u1] at v1; cases v1
  · rcases p2 with ⟨v1, -⟩ | ⟨v1, v2, rfl, rfl⟩ | ⟨v1, x, v2, -⟩
    · rw [u1] at v1; cases v1
    · exact ⟨rfl, same⟩
    · rw [u2] at v2; cases v2
  · rcases p2 with ⟨v1, -⟩ | ⟨v1, v2, -⟩ | ⟨v1, x, v2, p2⟩
    · rw [u1] at v1; cases v1
    · rw [u2] at v2; cases v2
    · rw [u2] at v2
      cases v2
      have ha := (fnK_some u2).1
      refine t_chg hI u1 hc (n4 := n0 - 1) (by omega) ⟨(pk_un (by omega)).trans (pk_un (by omega)), (pk_un (by omega)).trans (pk_un (by omega)), (pk_un (by omega)).trans (pk_un (by omega)), pk_us⟩ (fun x hx => ?_) (fun x hx => ?_) (fun x hx => cpy3o hx) ⟨fun i hi => del_sec S0.1 hi, fun i hi => del_sec S0.2.1 hi, inc_del S0.2.2⟩ (fun i hi => ?_) p1 p2
      · unfold sdF; rw [if_neg (by omega)]; exact cpy3o hx
      · unfold sdF; rw [if_neg (by omega)]; exact cpy3o hx
      · unfold sdF
        dsimp only
        by_cases e2 : a ≤ i
        · rw [if_pos ⟨e2, hi⟩, if_pos ⟨e2, hi⟩, cpy00 (by omega), cpy00 (by omega)]; exact K0 _ (by omega)
        · rw [if_neg (by omega), if_neg (by omega), cpy00 (by omega), cpy00 (by omega)]; exact K0 _ (by omega)
