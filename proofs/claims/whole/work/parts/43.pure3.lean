/-! The heap's words -/
abbrev wH (ho hu : Nat) (cZ : ClassId) (fu : Nat → Int32) (iu : Int32) : va_W := [(ho, .inr (0, [.ref hu, .int iu])), (hu, .inl (cZ, 64, .inl fu))]
def zerF (f : Nat → Int32) (k : Nat) : Nat → Int32 := fun j => if j < k then nI 0 else f j
theorem zerF_0 (f : Nat → Int32) : zerF f 0 = f := by funext j; unfold zerF; rw [if_neg (by omega)]
theorem zerF_s (f : Nat → Int32) (k : Nat) : upd (zerF f k) k (nI 0) = zerF f (k + 1) := by
  funext j; unfold upd zerF
  by_cases h : j = k
  · subst h; rw [if_pos rfl, if_pos (Nat.lt_succ_self j)]
  · rw [if_neg h]
    by_cases h2 : j < k
    · rw [if_pos h2, if_pos (show j < k + 1 by omega)]
    · rw [if_neg h2, if_neg (show ¬ j < k + 1 by omega)]
/-- the array fu says which of the 64 nodes are in u -/
def isU (fu : Nat → Int32) (u : Nat → Bool) : Prop := ∀ j, j < 64 → fu j = bi (u j)
theorem isU_0 (f : Nat → Int32) : isU (zerF f 64) (fun _ => false) := fun j hj => by unfold zerF; rw [if_pos hj]; rfl
theorem isU_set {fu : Nat → Int32} {u : Nat → Bool} {d : Nat} (h : isU fu u) : isU (upd fu d (nI 1)) (setB u d) := fun j hj => by
  unfold upd setB
  by_cases e : j = d
  · rw [if_pos e, if_pos e]; rfl
  · rw [if_neg e, if_neg e]; exact h j hj
theorem cntF_false (n : Nat) : cntF (fun _ => false) n = 0 := by
  induction n with
  | zero => rfl
  | succ n ih => rw [cntF_add0 rfl, ih]
/-- giving nodes: k keys seen, every number below fr is in use, u2 is in use now, fe the nodes now -/
def GV (u : Nat → Bool) (fd : Nat → Int32) (n k fr : Nat) (u2 : Nat → Bool) (fe : Nat → Int32) : Prop :=
  (∀ j, j < fr → u2 j = true) ∧ (∀ j, u j = true → u2 j = true) ∧ cntF u2 64 + cntF (fun i => decide (fd i = -1)) n ≤ 64 + cntF (fun i => decide (fd i = -1)) k ∧
  (∀ i, k ≤ i → fe i = fd i) ∧ (∀ i, i < k → fd i ≠ -1 → fe i = fd i) ∧ (∀ i, i < k → fd i = -1 → ∃ g, fe i = nI g ∧ g < 64 ∧ u g = false ∧ u2 g = true) ∧ ∀ i j, i < j → j < k → fd i = -1 → fd j = -1 → fe i ≠ fe j
theorem GV_0 {u : Nat → Bool} {fd : Nat → Int32} {n : Nat} (h : cntF u 64 + cntF (fun i => decide (fd i = -1)) n ≤ 64) : GV u fd n 0 0 u fd :=
  ⟨fun j hj => by omega, fun _ h => h, by simpa [cntF] using h, fun _ _ => rfl, fun i hi => by omega, fun i hi => by omega, fun i j _ hj => by omega⟩
theorem GV_skip {u : Nat → Bool} {fd : Nat → Int32} {n k fr : Nat} {u2 : Nat → Bool} {fe : Nat → Int32} (h : GV u fd n k fr u2 fe) (hk : fd k ≠ -1) : GV u fd n (k + 1) fr u2 fe := by
  obtain ⟨h1, h2, h3, h4, h5, h6, h7⟩ := h
  refine ⟨h1, h2, by rw [cntF_add0 (p := fun i => decide (fd i = -1)) (decide_eq_false hk)]; exact h3, fun i hi => h4 i (by omega), fun i hi hne => ?_, fun i hi he => ?_, fun i j hij hj e1 e2 => ?_⟩
  · by_cases e : i = k
    · subst e; exact h4 i (Nat.le_refl i)
    · exact h5 i (by omega) hne
  · by_cases e : i = k
    · subst e; exact absurd he hk
    · exact h6 i (by omega) he
  · by_cases e : j = k
    · subst e; exact absurd e2 hk
    · exact h7 i j hij (by omega) e1 e2
/-- there is a free number, at or above fr -/
theorem GV_free {u : Nat → Bool} {fd : Nat → Int32} {n k fr : Nat} {u2 : Nat → Bool} {fe : Nat → Int32} (h : GV u fd n k fr u2 fe) (hkn : k < n) (hk : fd k = -1) : ∃ j, j < 64 ∧ u2 j = false := by
  refine cntF_free 64 ?_
  have h1 := cntF_mono (fun i => decide (fd i = -1)) (show k + 1 ≤ n by omega)
  rw [cntF_add1 (p := fun i => decide (fd i = -1)) (decide_eq_true hk)] at h1
  have := h.2.2.1
  omega
theorem GV_give {u : Nat → Bool} {fd : Nat → Int32} {n k fr g : Nat} {u2 : Nat → Bool} {fe : Nat → Int32} (h : GV u fd n k fr u2 fe) (hk : fd k = -1) (hg : g < 64) (hu : u2 g = false) (hlo : ∀ j, j < g → u2 j = true) : GV u fd n (k + 1) g (setB u2 g) (upd fe k (nI g)) := by
  obtain ⟨h1, h2, h3, h4, h5, h6, h7⟩ := h
  refine ⟨fun j hj => by rw [setB_n (by omega)]; exact hlo j hj, fun j hj => ?_, ?_, fun i hi => ?_, fun i hi hne => ?_, fun i hi he => ?_, fun i j hij hj e1 e2 => ?_⟩
  · by_cases e : j = g
    · subst e; exact setB_s
    · rw [setB_n e]; exact h2 j hj
  · rw [cntF_setB hu 64 hg, cntF_add1 (p := fun i => decide (fd i = -1)) (decide_eq_true hk)]; omega
  · rw [pk_un (by omega)]; exact h4 i (by omega)
  · by_cases e : i = k
    · subst e; exact absurd hk hne
    · rw [pk_un e]; exact h5 i (by omega) hne
  · by_cases e : i = k
    · subst e
      refine ⟨g, pk_us, hg, ?_, setB_s⟩
      cases hug : u g with
      | false => rfl
      | true => rw [h2 g hug] at hu; cases hu
    · obtain ⟨q, e1, e2, e3, e4⟩ := h6 i (by omega) he
      exact ⟨q, by rw [pk_un e]; exact e1, e2, e3, by rw [setB_n (fun z => by subst z; rw [e4] at hu; cases hu)]; exact e4⟩
  · by_cases e : j = k
    · subst e
      rw [pk_us, pk_un (by omega)]
      obtain ⟨q, q1, q2, q3, q4⟩ := h6 i (by omega) e1
      rw [q1]
      intro z
      have := (nI_eq (show q < 2 ^ 31 by omega) (show g < 2 ^ 31 by omega)).mp z
      subst this
      rw [q4] at hu; cases hu
    · rw [pk_un (by omega), pk_un (by omega)]; exact h7 i j hij (by omega) e1 e2
/-- what giveNodesTo leaves -/
def GVd (u : Nat → Bool) (fd : Nat → Int32) (n : Nat) (fe : Nat → Int32) : Prop :=
  (∀ i, i < n → fd i ≠ -1 → fe i = fd i) ∧ (∀ i, i < n → fd i = -1 → ∃ g, fe i = nI g ∧ g < 64 ∧ u g = false) ∧ ∀ i j, i < j → j < n → fd i = -1 → fd j = -1 → fe i ≠ fe j
theorem GV_end {u : Nat → Bool} {fd : Nat → Int32} {n fr : Nat} {u2 : Nat → Bool} {fe : Nat → Int32} (h : GV u fd n n fr u2 fe) : GVd u fd n fe :=
  ⟨h.2.2.2.2.1, fun i hi he => by obtain ⟨g, h1, h2, h3, -⟩ := h.2.2.2.2.2.1 i hi he; exact ⟨g, h1, h2, h3⟩, h.2.2.2.2.2.2⟩
