/-! The tie of the two sides -/
def SD (fk fv : Nat → Int32) (n : Nat) (gk gv : Nat → Int32) (s : Nat) : Prop := (∀ i, i < n → sec gk s i = fk i) ∧ (∀ i, i < n → sec gv s i = fv i) ∧ inc fk n
def RK (fk fr : Nat → Int32) (n : Nat) : Prop := ∀ i, i < n → fr i = rk (fk i)
def ND (fd : Nat → Int32) (d : Nat → Nat) (n : Nat) (gi : Nat → Int32) (s : Nat) (x : Nat → Nat) (made : Nat) : Prop := isD fd d n ∧ (∀ i, i < n → sec gi s i = nI (x i) ∧ x i ≤ made) ∧ (∀ i j, i < j → j < n → d i ≠ d j) ∧ ∀ i j, i < j → j < n → x i ≠ x j
def CR (d : Nat → Nat) (n : Nat) (d' : Nat → Nat) (n' : Nat) (x x' : Nat → Nat) : Prop := ∀ i j, i < n → j < n' → (d i = d' j ↔ x i = x' j)
theorem inj_iff {d : Nat → Nat} {n i j : Nat} (h : ∀ i j, i < j → j < n → d i ≠ d j) (hi : i < n) (hj : j < n) : d i = d j ↔ i = j := by
  constructor
  · intro e
    rcases Nat.lt_trichotomy i j with q | q | q
    · exact absurd e (h i j q hj)
    · exact q
    · exact absurd e.symm (h j i q hi)
  · intro e; rw [e]
/-- a key's place in a run is the same where keys and values are the same and the runs are alike -/
theorem smT_same {p p' q q' : Nat → Nat → Bool} {K V L W K2 V2 L2 W2 : Nat → Int32} {n m a b : Nat} (ha : a < n) (hb : b < m) (hp : ∀ j, j < n → p a j = p' a j) (hq : ∀ j, j < m → q b j = q' b j) (hK : ∀ i, i < n → K i = K2 i) (hV : ∀ i, i < n → V i = V2 i) (hL : ∀ i, i < m → L i = L2 i) (hW : ∀ i, i < m → W i = W2 i) : smT p q K V L W n m a b = smT p' q' K2 V2 L2 W2 n m a b := by
  rw [smT_congr ha hb hp hq]
  unfold smT
  by_cases hE : laT p' n a - fsT p' a = laT q' m b - fsT q' b
  · rw [decide_eq_true hE, Bool.true_and, Bool.true_and]
    have h1 := laT_lt p' (n := n) ha
    have h2 := laT_lt q' (n := m) hb
    have h3 := fsT_le p' a
    have h4 := fsT_le q' b
    have h5 := laT_ge p' n a
    have h6 := laT_ge q' m b
    have key : ∀ k, k ≤ laT p' n a - fsT p' a + 1 → allF (smE K V L W (fsT p' a) (fsT q' b)) k = allF (smE K2 V2 L2 W2 (fsT p' a) (fsT q' b)) k := by
      intro k
      induction k with
      | zero => intro _; rfl
      | succ k ih =>
        intro hk
        show (allF _ k && smE K V L W _ _ k) = (allF _ k && smE K2 V2 L2 W2 _ _ k)
        rw [ih (by omega)]
        unfold smE
        rw [hK _ (by omega), hV _ (by omega), hL _ (by omega), hW _ (by omega)]
    exact key _ (Nat.le_refl _)
  · rw [decide_eq_false hE, Bool.false_and, Bool.false_and]
theorem kp_same {fk fv fr gk gv gr : Nat → Int32} {n m : Nat} {K V : Nat → Int32} (h3 : SD fk fv n K V 3) (r3 : RK fk fr n) (h0 : SD gk gv m K V 0) (r0 : RK gk gr m) {a : Nat} (ha : a < n) : kpC fk fv fr gk gv gr n m a = kpR K V n m a := by
  unfold kpC kpR kpT
  rw [h3.1 a ha, fnK_congr (K' := gk) h0.1]
  cases hq : fnK gk m (fk a) with
  | none => rfl
  | some b =>
    have hb := (fnK_some hq).1
    refine smT_same ha hb (fun j hj => ?_) (fun j hj => ?_) (fun i hi => (h3.1 i hi).symm) (fun i hi => (h3.2.1 i hi).symm) (fun i hi => (h0.1 i hi).symm) (fun i hi => (h0.2.1 i hi).symm)
    · rw [hi_eq r3 h3.2.2 ha hj]; unfold hiK; rw [h3.1 a ha, h3.1 j hj]
    · rw [hi_eq r0 h0.2.2 hb hj]; unfold hiK; rw [h0.1 b hb, h0.1 j hj]
theorem nw_same {fk fv fr gk gv gr : Nat → Int32} {n m : Nat} {K V : Nat → Int32} (h3 : SD fk fv n K V 3) (r3 : RK fk fr n) (h0 : SD gk gv m K V 0) (r0 : RK gk gr m) : nwC fk fv fr gk gv gr n m n = nwR K V n m n := cntF_congr n (fun j hj => by rw [kp_same h3 r3 h0 r0 hj])
theorem ol_same {fk fv gk gv : Nat → Int32} {n m : Nat} {K V : Nat → Int32} (h3 : SD fk fv n K V 3) (h0 : SD gk gv m K V 0) {a : Nat} (ha : a < n) : olC fk gk m a = olR K m a := by
  unfold olC olR; rw [h3.1 a ha, fnK_congr (K' := gk) h0.1]
theorem memD_uni {u : Nat → Bool} {d : Nat → Nat} {n j : Nat} : uniD u d n j = (u j || memD d n j) := rfl
/-- both sides count the same nodes in use -/
theorem use_same {d0 d1 d2 i0 i1 i2 : Nat → Nat} {n0 n1 n2 made : Nat} {t1 t2 : Bool} {fd0 fd1 fd2 gi : Nat → Int32} (hm : made < 2 ^ 31) (N0 : ND fd0 d0 n0 gi 0 i0 made) (N1 : t1 = true → ND fd1 d1 n1 gi 1 i1 made ∧ CR d0 n0 d1 n1 i0 i1) (N2 : t2 = true → ND fd2 d2 n2 gi 2 i2 made ∧ CR d0 n0 d2 n2 i0 i2) (N3 : t1 = true → t2 = true → CR d1 n1 d2 n2 i1 i2) : cntF (U3 d0 d1 d2 n0 n1 n2 t1 t2) 64 = useR gi n0 n1 n2 t1 t2 := by
  have mem : ∀ {n m : Nat} {d d' x x' : Nat → Nat} {s s' : Nat}, (∀ i, i < n → sec gi s i = nI (x i) ∧ x i ≤ made) → (∀ i, i < m → sec gi s' i = nI (x' i) ∧ x' i ≤ made) → CR d n d' m x x' → ∀ j, j < m → memD d n (d' j) = memF (sec gi s) n (sec gi s' j) := by
    intro n m d d' x x' s s' h h' hc j hj
    rw [Bool.eq_iff_iff, memD_t, memF_t]
    constructor
    · rintro ⟨i, hi, e⟩
      refine ⟨i, hi, ?_⟩
      rw [(h i hi).1, (h' j hj).1, (hc i j hi hj).mp e]
    · rintro ⟨i, hi, e⟩
      refine ⟨i, hi, (hc i j hi hj).mpr ?_⟩
      rw [(h i hi).1, (h' j hj).1] at e
      exact (nI_eq (by have := (h i hi).2; omega) (by have := (h' j hj).2; omega)).mp e
  have c0 : cntF (uniD (fun _ => false) d0 n0) 64 = n0 := by
    rw [card_uni n0 (fun i hi => (N0.1 i hi).2) N0.2.2.1, cntF_false]
    have : ∀ n, cntF (fun i => !((fun _ => false) (d0 i) : Bool)) n = n := by
      intro n
      induction n with
      | zero => rfl
      | succ n ih => rw [cntF_add1 (by rfl), ih]
    rw [this]; omega
  have m0 : ∀ j, uniD (fun _ => false) d0 n0 j = memD d0 n0 j := fun j => by unfold uniD; rw [Bool.false_or]
  unfold U3 useR useC
  have e1 : cntF (uniO t1 (uniD (fun _ => false) d0 n0) d1 n1) 64 = n0 + (if t1 = true then cntF (fun i => !(memF (sec gi 0) n0 (sec gi 1 i))) n1 else 0) := by
    by_cases ht : t1 = true
    · rw [uniO_t ht, if_pos ht, card_uni n1 (fun i hi => ((N1 ht).1.1 i hi).2) (N1 ht).1.2.2.1, c0]
      congr 1
      refine cntF_congr n1 (fun j hj => ?_)
      rw [m0, mem N0.2.1 (N1 ht).1.2.1 (N1 ht).2 j hj]
    · rw [uniO_f (Bool.eq_false_iff.mpr ht), if_neg ht, c0]; rfl
  by_cases ht : t2 = true
  · rw [uniO_t ht, if_pos ht, card_uni n2 (fun i hi => ((N2 ht).1.1 i hi).2) (N2 ht).1.2.2.1, e1]
    congr 1
    refine cntF_congr n2 (fun j hj => ?_)
    congr 1
    by_cases h1 : t1 = true
    · rw [uniO_t h1, h1, Bool.true_and, memD_uni, m0, mem N0.2.1 (N2 ht).1.2.1 (N2 ht).2 j hj, mem (N1 h1).1.2.1 (N2 ht).1.2.1 (N3 h1 ht) j hj]
    · have h1 := Bool.eq_false_iff.mpr h1
      rw [uniO_f h1, h1, Bool.false_and, Bool.or_false, m0, mem N0.2.1 (N2 ht).1.2.1 (N2 ht).2 j hj]
  · rw [uniO_f (Bool.eq_false_iff.mpr ht), if_neg ht, e1]; rfl
/-- what the set of nodes in use holds -/
theorem U3_0 {d0 d1 d2 : Nat → Nat} {n0 n1 n2 : Nat} {t1 t2 : Bool} {i : Nat} (hi : i < n0) : U3 d0 d1 d2 n0 n1 n2 t1 t2 (d0 i) = true := by
  have h0 : uniD (fun _ => false) d0 n0 (d0 i) = true := by unfold uniD; rw [memD_t.mpr ⟨i, hi, rfl⟩, Bool.or_true]
  have h1 : uniO t1 (uniD (fun _ => false) d0 n0) d1 n1 (d0 i) = true := by
    cases ht : t1 with
    | true => rw [uniO_t rfl]; show (_ || _) = true; rw [h0, Bool.true_or]
    | false => rw [uniO_f rfl]; exact h0
  unfold U3
  cases ht : t2 with
  | true => rw [uniO_t rfl]; show (_ || _) = true; rw [h1, Bool.true_or]
  | false => rw [uniO_f rfl]; exact h1
theorem U3_1 {d0 d1 d2 : Nat → Nat} {n0 n1 n2 : Nat} {t1 t2 : Bool} (h : t1 = true) {i : Nat} (hi : i < n1) : U3 d0 d1 d2 n0 n1 n2 t1 t2 (d1 i) = true := by
  have h1 : uniO t1 (uniD (fun _ => false) d0 n0) d1 n1 (d1 i) = true := by rw [uniO_t h]; show (_ || _) = true; rw [memD_t.mpr ⟨i, hi, rfl⟩, Bool.or_true]
  unfold U3
  cases ht : t2 with
  | true => rw [uniO_t rfl]; show (_ || _) = true; rw [h1, Bool.true_or]
  | false => rw [uniO_f rfl]; exact h1
theorem U3_2 {d0 d1 d2 : Nat → Nat} {n0 n1 n2 : Nat} {t1 t2 : Bool} (h : t2 = true) {i : Nat} (hi : i < n2) : U3 d0 d1 d2 n0 n1 n2 t1 t2 (d2 i) = true := by
  unfold U3; rw [uniO_t h]; show (_ || _) = true; rw [memD_t.mpr ⟨i, hi, rfl⟩, Bool.or_true]
