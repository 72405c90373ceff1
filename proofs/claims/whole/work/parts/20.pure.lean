/-! The pure layer: both sides are said in these words -/
def bi (b : Bool) : Int32 := if b then 1 else 0
theorem bi_t : bi true = 1 := rfl
theorem bi_f : bi false = 0 := rfl
theorem bi_nar (b : Bool) : narrow .boolean (.int (bi b)) = .int (bi b) := by cases b <;> rfl
theorem bi_vp (b : Bool) : vp_nar .boolean (bi b) = bi b := by cases b <;> rfl
theorem bi_fits (b : Bool) : fits .boolean (.int (bi b)) = true := by cases b <;> rfl
theorem bi_0 (b : Bool) : bi b = 0 ↔ b = false := by cases b <;> decide
/-- the rank of a key -/
def rk (k : Int32) : Int32 := (((k + 1) * 1664525 + 1013904223) ^^^ ((((k + 1) * 1664525 + 1013904223).toUInt32 >>> ((15 : Int32).toUInt32 &&& Int32.toUInt32 31)).toInt32)) &&& 1048575
def hg (a b : Int32) : Bool := decide (rk b < rk a ∨ (rk a = rk b ∧ a < b))
/-- the run of a subtree: down from a while p holds, up from i at most f steps while p holds -/
def fstF (p : Nat → Bool) : Nat → Nat
  | 0 => 0
  | i + 1 => if p i = true then fstF p i else i + 1
def lstF (p : Nat → Bool) : Nat → Nat → Nat
  | 0, i => i
  | f + 1, i => if p (i + 1) = true then lstF p f (i + 1) else i
def fndF (p : Nat → Bool) : Nat → Nat → Option Nat
  | 0, _ => none
  | f + 1, i => if p i = true then some i else fndF p f (i + 1)
def cntF (p : Nat → Bool) : Nat → Nat
  | 0 => 0
  | i + 1 => cntF p i + (if p i = true then 1 else 0)
theorem fstF_le (p : Nat → Bool) : ∀ a, fstF p a ≤ a
  | 0 => Nat.le_refl 0
  | i + 1 => by
    unfold fstF; split
    · exact Nat.le_succ_of_le (fstF_le p i)
    · exact Nat.le_refl _
theorem fstF_congr {p q : Nat → Bool} : ∀ a, (∀ j, j < a → p j = q j) → fstF p a = fstF q a
  | 0, _ => rfl
  | i + 1, h => by
    unfold fstF; rw [h i (Nat.lt_succ_self i), fstF_congr i (fun j hj => h j (Nat.lt_succ_of_lt hj))]
theorem lstF_ge (p : Nat → Bool) : ∀ f i, i ≤ lstF p f i
  | 0, i => Nat.le_refl i
  | f + 1, i => by
    unfold lstF; split
    · exact Nat.le_trans (Nat.le_succ i) (lstF_ge p f (i + 1))
    · exact Nat.le_refl _
theorem lstF_le (p : Nat → Bool) : ∀ f i, lstF p f i ≤ i + f
  | 0, i => Nat.le_refl i
  | f + 1, i => by
    unfold lstF; split
    · have := lstF_le p f (i + 1); omega
    · omega
theorem lstF_congr {p q : Nat → Bool} : ∀ f i, (∀ j, i < j → j ≤ i + f → p j = q j) → lstF p f i = lstF q f i
  | 0, _, _ => rfl
  | f + 1, i, h => by
    unfold lstF; rw [h (i + 1) (by omega) (by omega), lstF_congr f (i + 1) (fun j h1 h2 => h j (by omega) (by omega))]
theorem fndF_some {p : Nat → Bool} : ∀ f i j, fndF p f i = some j → i ≤ j ∧ j < i + f ∧ p j = true ∧ ∀ m, i ≤ m → m < j → p m = false
  | 0, i, j, h => by simp [fndF] at h
  | f + 1, i, j, h => by
    unfold fndF at h
    split at h
    · rename_i hp; cases h; exact ⟨Nat.le_refl _, by omega, hp, fun m h1 h2 => by omega⟩
    · rename_i hp
      obtain ⟨h1, h2, h3, h4⟩ := fndF_some f (i + 1) j h
      refine ⟨by omega, by omega, h3, fun m h5 h6 => ?_⟩
      by_cases hm : m = i
      · subst hm; exact Bool.eq_false_iff.mpr hp
      · exact h4 m (by omega) h6
theorem fndF_none {p : Nat → Bool} : ∀ f i, fndF p f i = none → ∀ m, i ≤ m → m < i + f → p m = false
  | 0, i, _, m, h1, h2 => by omega
  | f + 1, i, h, m, h1, h2 => by
    unfold fndF at h
    split at h
    · cases h
    · rename_i hp
      by_cases hm : m = i
      · subst hm; exact Bool.eq_false_iff.mpr hp
      · exact fndF_none f (i + 1) h m (by omega) (by omega)
theorem fndF_congr {p q : Nat → Bool} : ∀ f i, (∀ j, i ≤ j → j < i + f → p j = q j) → fndF p f i = fndF q f i
  | 0, _, _ => rfl
  | f + 1, i, h => by
    unfold fndF; rw [h i (Nat.le_refl i) (by omega), fndF_congr f (i + 1) (fun j h1 h2 => h j (by omega) (by omega))]
theorem fndF_is {p : Nat → Bool} : ∀ f i j, i ≤ j → j < i + f → p j = true → (∀ m, i ≤ m → m < j → p m = false) → fndF p f i = some j
  | 0, i, j, h1, h2, _, _ => by omega
  | f + 1, i, j, h1, h2, h3, h4 => by
    unfold fndF
    by_cases hij : i = j
    · subst hij; rw [if_pos h3]
    · rw [if_neg (by rw [h4 i (Nat.le_refl i) (by omega)]; decide)]
      exact fndF_is f (i + 1) j (by omega) (by omega) h3 (fun m h5 h6 => h4 m (by omega) h6)
theorem fndF_no {p : Nat → Bool} : ∀ f i, (∀ m, i ≤ m → m < i + f → p m = false) → fndF p f i = none
  | 0, _, _ => rfl
  | f + 1, i, h => by
    unfold fndF; rw [if_neg (by rw [h i (Nat.le_refl i) (by omega)]; decide)]
    exact fndF_no f (i + 1) (fun m h1 h2 => h m (by omega) (by omega))
theorem cntF_le (p : Nat → Bool) : ∀ n, cntF p n ≤ n
  | 0 => Nat.le_refl 0
  | n + 1 => by have := cntF_le p n; unfold cntF; split <;> omega
theorem cntF_congr {p q : Nat → Bool} : ∀ n, (∀ j, j < n → p j = q j) → cntF p n = cntF q n
  | 0, _ => rfl
  | n + 1, h => by unfold cntF; rw [h n (Nat.lt_succ_self n), cntF_congr n (fun j hj => h j (Nat.lt_succ_of_lt hj))]
theorem cntF_mono (p : Nat → Bool) : ∀ {m n}, m ≤ n → cntF p m ≤ cntF p n := by
  intro m n h
  induction n with
  | zero => have : m = 0 := by omega
            subst this; exact Nat.le_refl _
  | succ n ih =>
    by_cases hm : m = n + 1
    · subst hm; exact Nat.le_refl _
    · have := ih (by omega)
      show cntF p m ≤ cntF p n + _
      omega
/-- how the key at place a stands to the key at place j, in a state with keys K -/
def hiK (K : Nat → Int32) (a : Nat) : Nat → Bool := fun j => hg (K a) (K j)
/-- the same by ranks and places, as the class does it -/
def hiC (R : Nat → Int32) (a : Nat) : Nat → Bool := fun j => decide (R j < R a ∨ (R a = R j ∧ a < j))
def fsT (p : Nat → Nat → Bool) (a : Nat) : Nat := fstF (p a) a
def laT (p : Nat → Nat → Bool) (n a : Nat) : Nat := lstF (p a) (n - 1 - a) a
theorem fsT_le (p : Nat → Nat → Bool) (a : Nat) : fsT p a ≤ a := fstF_le _ _
theorem laT_ge (p : Nat → Nat → Bool) (n a : Nat) : a ≤ laT p n a := lstF_ge _ _ _
theorem laT_lt (p : Nat → Nat → Bool) {n a : Nat} (h : a < n) : laT p n a < n := by have := lstF_le (p a) (n - 1 - a) a; unfold laT; omega
/-- the subtrees at a and at b are the same: as long, with the same keys and values -/
def allF (p : Nat → Bool) : Nat → Bool
  | 0 => true
  | n + 1 => allF p n && p n
theorem allF_no {p : Nat → Bool} {k : Nat} (h : allF p k = false) : ∀ {m}, k ≤ m → allF p m = false := by
  intro m hm
  induction m with
  | zero => have : k = 0 := by omega
            subst this; exact h
  | succ m ih =>
    by_cases hk : k = m + 1
    · subst hk; exact h
    · show (allF p m && p m) = false; rw [ih (by omega)]; rfl
def smE (K V K' V' : Nat → Int32) (F G : Nat) : Nat → Bool := fun j => decide (K (F + j) = K' (G + j)) && decide (V (F + j) = V' (G + j))
def smT (p q : Nat → Nat → Bool) (K V K' V' : Nat → Int32) (n n' a b : Nat) : Bool :=
  decide (laT p n a - fsT p a = laT q n' b - fsT q b) && allF (smE K V K' V' (fsT p a) (fsT q b)) (laT p n a - fsT p a + 1)
theorem smT_congr {p p' q q' : Nat → Nat → Bool} {K V K' V' : Nat → Int32} {n n' a b : Nat} (ha : a < n) (hb : b < n') (hp : ∀ j, j < n → p a j = p' a j) (hq : ∀ j, j < n' → q b j = q' b j) : smT p q K V K' V' n n' a b = smT p' q' K V K' V' n n' a b := by
  have e1 : fsT p a = fsT p' a := fstF_congr a (fun j hj => hp j (by omega))
  have e2 : laT p n a = laT p' n a := lstF_congr _ _ (fun j h1 h2 => hp j (by omega))
  have e3 : fsT q b = fsT q' b := fstF_congr b (fun j hj => hq j (by omega))
  have e4 : laT q n' b = laT q' n' b := lstF_congr _ _ (fun j h1 h2 => hq j (by omega))
  unfold smT; rw [e1, e2, e3, e4]
/-- keys rise -/
def inc (K : Nat → Int32) (n : Nat) : Prop := ∀ i j, i < j → j < n → K i < K j
theorem hi_eq {K R : Nat → Int32} {n a j : Nat} (hR : ∀ i, i < n → R i = rk (K i)) (hK : inc K n) (ha : a < n) (hj : j < n) : hiC R a j = hiK K a j := by
  unfold hiC hiK hg
  rw [hR a ha, hR j hj]
  congr 1
  apply propext
  have hlt : a < j ↔ K a < K j := by
    constructor
    · intro h; exact hK a j h hj
    · intro h
      rcases Nat.lt_trichotomy a j with q | q | q
      · exact q
      · subst q; exact (Int32.lt_irrefl h).elim
      · exact absurd h (Int32.not_lt.mpr (Int32.le_of_lt (hK j a q ha)))
  rw [hlt]
def fnK (K : Nat → Int32) (n : Nat) (key : Int32) : Option Nat := fndF (fun i => decide (K i = key)) n 0
def lbK (K : Nat → Int32) (n : Nat) (key : Int32) : Option Nat := fndF (fun i => decide (key ≤ K i)) n 0
theorem fnK_lb {K : Nat → Int32} {n : Nat} {key : Int32} (hK : inc K n) : fnK K n key = (match lbK K n key with | none => none | some i => if K i = key then some i else none) := by
  unfold fnK
  cases hl : lbK K n key with
  | none =>
    have h := fndF_none n 0 hl
    refine fndF_no n 0 (fun m h1 h2 => ?_)
    have := of_decide_eq_false (h m h1 h2)
    exact decide_eq_false (fun e => this (by rw [e]; exact Int32.le_refl _))
  | some i =>
    obtain ⟨-, h2, h3, h4⟩ := fndF_some n 0 i hl
    have h3 := of_decide_eq_true h3
    simp only []
    by_cases hi : K i = key
    · rw [if_pos hi]
      refine fndF_is n 0 i (Nat.zero_le _) h2 (decide_eq_true hi) (fun m h5 h6 => ?_)
      have := of_decide_eq_false (h4 m h5 h6)
      exact decide_eq_false (fun e => this (by rw [e]; exact Int32.le_refl _))
    · rw [if_neg hi]
      refine fndF_no n 0 (fun m h5 h6 => decide_eq_false (fun e => ?_))
      rcases Nat.lt_trichotomy m i with q | q | q
      · exact (of_decide_eq_false (h4 m h5 q)) (by rw [e]; exact Int32.le_refl _)
      · subst q; exact hi e
      · have := hK i m q (by omega)
        rw [e] at this
        exact absurd h3 (Int32.not_le.mpr this)
theorem fnK_some {K : Nat → Int32} {n : Nat} {key : Int32} {i : Nat} (h : fnK K n key = some i) : i < n ∧ K i = key := by
  obtain ⟨-, h2, h3, -⟩ := fndF_some n 0 i h
  exact ⟨by omega, of_decide_eq_true h3⟩
theorem fnK_none {K : Nat → Int32} {n : Nat} {key : Int32} (h : fnK K n key = none) : ∀ i, i < n → K i ≠ key := fun i hi => of_decide_eq_false (fndF_none n 0 h i (Nat.zero_le _) (by omega))
theorem fnK_congr {K K' : Nat → Int32} {n : Nat} {key : Int32} (h : ∀ i, i < n → K i = K' i) : fnK K n key = fnK K' n key := fndF_congr n 0 (fun j _ hj => by rw [h j (by omega)])
theorem lbK_congr {K K' : Nat → Int32} {n : Nat} {key : Int32} (h : ∀ i, i < n → K i = K' i) : lbK K n key = lbK K' n key := fndF_congr n 0 (fun j _ hj => by rw [h j (by omega)])
/-- which key of the draft keeps its node: it is in the map, with the same subtree -/
def kpT (p q : Nat → Nat → Bool) (K V K' V' : Nat → Int32) (n n' : Nat) (a : Nat) : Bool := match fnK K' n' (K a) with
  | none => false
  | some b => smT p q K V K' V' n n' a b
theorem n_eq0 {a : Nat} (h : a < 2 ^ 31) : nI a = 0 ↔ a = 0 := by rw [← nI_0]; exact nI_eq h (by omega)
theorem n_ne0 {a : Nat} (h : a < 2 ^ 31) : nI a = 0 ↔ a = 0 := n_eq0 h
theorem n_lt0 {a : Nat} (h : a < 2 ^ 31) : nI a < 0 ↔ a < 0 := by rw [← nI_0]; exact nI_ltI h (by omega)
theorem n_ge0 {a : Nat} (h : a < 2 ^ 31) : 0 ≤ nI a ↔ 0 ≤ a := by rw [← nI_0]; exact nI_leI (by omega) h
theorem n_gt0 {a : Nat} (h : a < 2 ^ 31) : 0 < nI a ↔ 0 < a := by rw [← nI_0]; exact nI_ltI (by omega) h
theorem n_le0 {a : Nat} (h : a < 2 ^ 31) : nI a ≤ 0 ↔ a ≤ 0 := by rw [← nI_0]; exact nI_leI h (by omega)
theorem n_dec {a : Nat} (h : 0 < a) : nI a + Int32.ofInt (-1) = nI (a - 1) := sb_m1 h
theorem n_inc (a : Nat) : nI a + Int32.ofInt 1 = nI (a + 1) := nI_1 a
/-- a place that does not hold p, where fewer than n hold it -/
theorem cntF_free {p : Nat → Bool} : ∀ n, cntF p n < n → ∃ j, j < n ∧ p j = false
  | 0, h => by simp [cntF] at h
  | n + 1, h => by
    unfold cntF at h
    by_cases hp : p n = true
    · rw [if_pos hp] at h
      obtain ⟨j, h1, h2⟩ := cntF_free (p := p) n (by omega)
      exact ⟨j, by omega, h2⟩
    · exact ⟨n, by omega, Bool.eq_false_iff.mpr hp⟩
def setB (u : Nat → Bool) (k : Nat) : Nat → Bool := fun j => if j = k then true else u j
theorem setB_s {u : Nat → Bool} {k : Nat} : setB u k k = true := by simp [setB]
theorem setB_n {u : Nat → Bool} {k j : Nat} (h : j ≠ k) : setB u k j = u j := by simp [setB, h]
theorem cntF_setB {u : Nat → Bool} {k : Nat} (hu : u k = false) : ∀ n, k < n → cntF (setB u k) n = cntF u n + 1
  | 0, h => by omega
  | n + 1, h => by
    unfold cntF
    by_cases hk : k = n
    · subst hk
      rw [setB_s, hu, cntF_congr k (fun j hj => setB_n (by omega))]; simp
    · rw [setB_n (by omega), cntF_setB hu n (by omega)]; omega
theorem cntF_add1 {p : Nat → Bool} {n : Nat} (h : p n = true) : cntF p (n + 1) = cntF p n + 1 := by show cntF p n + _ = _; rw [if_pos h]
theorem cntF_add0 {p : Nat → Bool} {n : Nat} (h : p n = false) : cntF p (n + 1) = cntF p n := by show cntF p n + _ = _; rw [h]; simp
/-- x is among the first n of f -/
def memF (f : Nat → Int32) (n : Nat) (x : Int32) : Bool := decide (∃ i, i < n ∧ f i = x)
theorem memF_t {f : Nat → Int32} {n : Nat} {x : Int32} : memF f n x = true ↔ ∃ i, i < n ∧ f i = x := by unfold memF; exact decide_eq_true_iff
theorem memF_0 (f : Nat → Int32) (x : Int32) : memF f 0 x = false := decide_eq_false (fun ⟨i, h, _⟩ => absurd h (Nat.not_lt_zero i))
theorem memF_s (f : Nat → Int32) (n : Nat) (x : Int32) : memF f (n + 1) x = (memF f n x || decide (f n = x)) := by
  rw [Bool.eq_iff_iff, memF_t, Bool.or_eq_true, memF_t, decide_eq_true_iff]
  constructor
  · rintro ⟨i, h1, h2⟩
    by_cases hi : i = n
    · subst hi; exact Or.inr h2
    · exact Or.inl ⟨i, by omega, h2⟩
  · rintro (⟨i, h1, h2⟩ | h)
    · exact ⟨i, by omega, h2⟩
    · exact ⟨n, by omega, h⟩
/-- a key put in at place a, a key taken out at place a, of n -/
def insF (f : Nat → Int32) (a n : Nat) (x : Int32) : Nat → Int32 := fun j => if j = a then x else if a < j ∧ j ≤ n then f (j - 1) else f j
def delF (f : Nat → Int32) (a n : Nat) : Nat → Int32 := fun j => if a ≤ j ∧ j + 1 < n then f (j + 1) else f j
/-- part of a shift up: places above a, up to n -/
def shF (f : Nat → Int32) (a n : Nat) : Nat → Int32 := fun j => if a < j ∧ j ≤ n then f (j - 1) else f j
/-- part of a shift down: places from a, below b -/
def sdF (f : Nat → Int32) (a b : Nat) : Nat → Int32 := fun j => if a ≤ j ∧ j < b then f (j + 1) else f j
theorem shF_nn (f : Nat → Int32) (n : Nat) : shF f n n = f := by funext j; unfold shF; rw [if_neg (by omega)]
theorem shF_step (f : Nat → Int32) {a n : Nat} (h : a < n) : upd (shF f (a + 1) n) (a + 1) (shF f (a + 1) n a) = shF f a n := by
  funext j; unfold upd shF
  by_cases h1 : j = a + 1
  · subst h1; rw [if_pos rfl, if_neg (by omega), if_pos (by omega)]; rfl
  · rw [if_neg h1]
    by_cases h2 : a + 1 < j ∧ j ≤ n
    · rw [if_pos h2, if_pos (by omega)]
    · rw [if_neg h2, if_neg (by omega)]
theorem shF_ins (f : Nat → Int32) (a n : Nat) (x : Int32) : upd (shF f a n) a x = insF f a n x := by funext j; unfold upd shF insF; rfl
theorem sdF_aa (f : Nat → Int32) (a : Nat) : sdF f a a = f := by funext j; unfold sdF; rw [if_neg (by omega)]
theorem sdF_step (f : Nat → Int32) {a b : Nat} (h : a ≤ b) : upd (sdF f a b) b (sdF f a b (b + 1)) = sdF f a (b + 1) := by
  funext j; unfold upd sdF
  by_cases h1 : j = b
  · subst h1; rw [if_pos rfl, if_neg (by omega), if_pos (by omega)]
  · rw [if_neg h1]
    by_cases h2 : a ≤ j ∧ j < b
    · rw [if_pos h2, if_pos (by omega)]
    · rw [if_neg h2, if_neg (by omega)]
theorem sdF_del (f : Nat → Int32) {a n : Nat} : sdF f a (n - 1) = delF f a n := by
  funext j; unfold sdF delF
  by_cases h : a ≤ j ∧ j + 1 < n
  · rw [if_pos (by omega), if_pos h]
  · rw [if_neg (by omega), if_neg h]
/-- copying n places from sp to dp, one after another, in one array whose two stretches are apart -/
theorem cpy_0 (f : Nat → Int32) (sp dp : Nat) : va_cpy f f sp dp 0 = f := by funext j; unfold va_cpy; rw [if_neg (by omega)]
theorem cpy_s (f : Nat → Int32) {sp dp n : Nat} (h : sp + n < dp ∨ dp + n ≤ sp) (h2 : dp ≠ sp) : upd (va_cpy f f sp dp n) (dp + n) (va_cpy f f sp dp n (sp + n)) = va_cpy f f sp dp (n + 1) := by
  funext j; unfold upd va_cpy
  by_cases h1 : j = dp + n
  · subst h1
    rw [if_pos rfl, if_neg (by omega), if_pos (by omega)]
    congr 1; omega
  · rw [if_neg h1]
    by_cases h3 : dp ≤ j ∧ j < dp + n
    · rw [if_pos h3, if_pos (by omega)]
    · rw [if_neg h3, if_neg (by omega)]
theorem cpy_src (f : Nat → Int32) {sp dp n : Nat} (h : sp + n < dp ∨ dp + n ≤ sp) : va_cpy f f sp dp n (sp + n) = f (sp + n) := by unfold va_cpy; rw [if_neg (by omega)]
theorem n_decE {a b : Nat} (h : a = b + 1) : nI a + Int32.ofInt (-1) = nI b := by subst h; exact pk_m1 b
theorem bi1 {b : Bool} (h : b = true) : nI 1 = bi b := by subst h; rfl
theorem bi0 {b : Bool} (h : b = false) : nI 0 = bi b := by subst h; rfl
/-- section s of an array of the reference -/
def sec (f : Nat → Int32) (s : Nat) : Nat → Int32 := fun i => f (31 * s + i)
def enc (base : Nat) : Option Nat → Int32
  | none => -1
  | some i => nI (base + i)
def memD (d : Nat → Nat) (n j : Nat) : Bool := decide (∃ i, i < n ∧ d i = j)
theorem memD_t {d : Nat → Nat} {n j : Nat} : memD d n j = true ↔ ∃ i, i < n ∧ d i = j := by unfold memD; exact decide_eq_true_iff
theorem memD_f {d : Nat → Nat} {n j : Nat} : memD d n j = false ↔ ∀ i, i < n → d i ≠ j := by
  unfold memD; rw [decide_eq_false_iff_not]
  constructor
  · intro h i hi e; exact h ⟨i, hi, e⟩
  · rintro h ⟨i, hi, e⟩; exact h i hi e
def uniD (u : Nat → Bool) (d : Nat → Nat) (n : Nat) : Nat → Bool := fun j => u j || memD d n j
theorem uniD_0 (u : Nat → Bool) (d : Nat → Nat) : uniD u d 0 = u := by
  funext j; unfold uniD; rw [memD_f.mpr (fun i hi => absurd hi (Nat.not_lt_zero i)), Bool.or_false]
theorem uniD_s (u : Nat → Bool) (d : Nat → Nat) (n : Nat) : uniD u d (n + 1) = setB (uniD u d n) (d n) := by
  funext j; unfold setB uniD
  by_cases hj : j = d n
  · rw [if_pos hj, memD_t.mpr ⟨n, by omega, hj.symm⟩, Bool.or_true]
  · rw [if_neg hj]
    congr 1
    rw [Bool.eq_iff_iff, memD_t, memD_t]
    constructor
    · rintro ⟨i, h1, h2⟩
      refine ⟨i, ?_, h2⟩
      by_cases hi : i = n
      · subst hi; exact absurd h2.symm hj
      · omega
    · rintro ⟨i, h1, h2⟩; exact ⟨i, by omega, h2⟩
theorem setB_id {u : Nat → Bool} {k : Nat} (h : u k = true) : setB u k = u := by
  funext j; unfold setB; split
  · rename_i e; rw [e, h]
  · rfl
theorem card_uni {u : Nat → Bool} {d : Nat → Nat} {M : Nat} : ∀ n, (∀ i, i < n → d i < M) → (∀ i j, i < j → j < n → d i ≠ d j) → cntF (uniD u d n) M = cntF u M + cntF (fun i => !(u (d i))) n
  | 0, _, _ => by rw [uniD_0]; rfl
  | n + 1, h1, h2 => by
    have ih := card_uni (u := u) (d := d) (M := M) n (fun i hi => h1 i (by omega)) (fun i j hi hj => h2 i j hi (by omega))
    rw [uniD_s]
    by_cases hu : u (d n) = true
    · rw [setB_id (by unfold uniD; rw [hu, Bool.true_or]), ih, cntF_add0 (by rw [hu]; rfl)]
    · have hu := Bool.eq_false_iff.mpr hu
      rw [cntF_setB (by unfold uniD; rw [hu, Bool.false_or]; exact memD_f.mpr (fun i hi => h2 i n hi (by omega))) M (h1 n (by omega)), ih, cntF_add1 (by rw [hu]; rfl)]
      omega
/-- how many nodes are in use, by what of slot 0 is in the map (p1), of slot 1 in the map (p2), of slot 1 in slot 0 (q2) -/
def useC (n0 m1 m2 : Nat) (t1 t2 : Bool) (p1 p2 q2 : Nat → Bool) : Nat := n0 + (if t1 = true then cntF (fun i => !(p1 i)) m1 else 0) + (if t2 = true then cntF (fun i => !(p2 i || (t1 && q2 i))) m2 else 0)
theorem fndF_hit {p : Nat → Bool} {f i : Nat} (h : p i = true) : fndF p (f + 1) i = some i := by unfold fndF; rw [if_pos h]
theorem fndF_miss {p : Nat → Bool} {f i : Nat} (h : p i = false) : fndF p (f + 1) i = fndF p f (i + 1) := by show (if _ then _ else _) = _; rw [if_neg (by rw [h]; decide)]
theorem fstF_hit {p : Nat → Bool} {i : Nat} (h : p i = true) : fstF p (i + 1) = fstF p i := by show (if _ then _ else _) = _; rw [if_pos h]
theorem fstF_stop {p : Nat → Bool} {i : Nat} (h : p i = false) : fstF p (i + 1) = i + 1 := by show (if _ then _ else _) = _; rw [if_neg (by rw [h]; decide)]
theorem lstF_hit {p : Nat → Bool} {f i : Nat} (h : p (i + 1) = true) : lstF p (f + 1) i = lstF p f (i + 1) := by show (if _ then _ else _) = _; rw [if_pos h]
theorem lstF_stop {p : Nat → Bool} {f i : Nat} (h : p (i + 1) = false) : lstF p (f + 1) i = i := by show (if _ then _ else _) = _; rw [if_neg (by rw [h]; decide)]
theorem ne_f {b : Bool} (h : ¬ b = false) : b = true := by cases b <;> simp_all
theorem and_t {a b : Bool} (h : true = (a && b)) : a = true ∧ b = true := by cases a <;> cases b <;> simp_all
theorem and_mono {E : Bool} {p : Nat → Bool} {k m : Nat} (hm : k ≤ m) (h : (E && allF p k) = false) : (E && allF p m) = false := by
  cases E
  · rfl
  · exact allF_no h hm
/-- settle's new ids: kp keeps the id of place ol, the others are new ones -/
def setl (fi : Nat → Int32) (made : Nat) (kp : Nat → Bool) (ol : Nat → Nat) (m : Nat) : Nat → Int32 := fun x => if 93 ≤ x ∧ x < 93 + m then (if kp (x - 93) = true then fi (ol (x - 93)) else nI (made + cntF (fun j => !(kp j)) (x - 93 + 1))) else fi x
theorem setl_lo {fi : Nat → Int32} {made : Nat} {kp : Nat → Bool} {ol : Nat → Nat} {m x : Nat} (h : x < 93) : setl fi made kp ol m x = fi x := by unfold setl; rw [if_neg (by omega)]
theorem setl_0 (fi : Nat → Int32) (made : Nat) (kp : Nat → Bool) (ol : Nat → Nat) : setl fi made kp ol 0 = fi := by funext x; unfold setl; rw [if_neg (by omega)]
theorem setl_s {fi : Nat → Int32} {made : Nat} {kp : Nat → Bool} {ol : Nat → Nat} {m : Nat} {v : Int32} (hv : v = if kp m = true then fi (ol m) else nI (made + cntF (fun j => !(kp j)) (m + 1))) : upd (setl fi made kp ol m) (93 + m) v = setl fi made kp ol (m + 1) := by
  funext x; unfold upd setl
  by_cases h1 : x = 93 + m
  · subst h1
    rw [if_pos rfl, if_pos (by omega), Nat.add_sub_cancel_left]; exact hv
  · rw [if_neg h1]
    by_cases h2 : 93 ≤ x ∧ x < 93 + m
    · rw [if_pos h2, if_pos (show 93 ≤ x ∧ x < 93 + (m + 1) from ⟨h2.1, by omega⟩)]
    · rw [if_neg h2, if_neg (by omega)]
theorem setl_in {fi : Nat → Int32} {made : Nat} {kp : Nat → Bool} {ol : Nat → Nat} {m j : Nat} (h : j < m) : sec (setl fi made kp ol m) 3 j = if kp j = true then fi (ol j) else nI (made + cntF (fun j => !(kp j)) (j + 1)) := by
  unfold sec setl; rw [if_pos (by omega), show 31 * 3 + j - 93 = j by omega]
/-- the reference's count of nodes in use -/
def useR (fi : Nat → Int32) (n0 m1 m2 : Nat) (t1 t2 : Bool) : Nat := useC n0 m1 m2 t1 t2 (fun i => memF (sec fi 0) n0 (sec fi 1 i)) (fun i => memF (sec fi 0) n0 (sec fi 2 i)) (fun i => memF (sec fi 1) m1 (sec fi 2 i))
theorem memF_congr {f g : Nat → Int32} {n : Nat} {x : Int32} (h : ∀ i, i < n → f i = g i) : memF f n x = memF g n x := by
  rw [Bool.eq_iff_iff, memF_t, memF_t]
  constructor
  · rintro ⟨i, h1, h2⟩; exact ⟨i, h1, by rw [← h i h1]; exact h2⟩
  · rintro ⟨i, h1, h2⟩; exact ⟨i, h1, by rw [h i h1]; exact h2⟩
theorem useC_congr {n0 m1 m2 : Nat} {t1 t2 : Bool} {p1 p2 q2 p1' p2' q2' : Nat → Bool} (h1 : t1 = true → ∀ i, i < m1 → p1 i = p1' i) (h2 : t2 = true → ∀ i, i < m2 → p2 i = p2' i) (h3 : t1 = true → t2 = true → ∀ i, i < m2 → q2 i = q2' i) : useC n0 m1 m2 t1 t2 p1 p2 q2 = useC n0 m1 m2 t1 t2 p1' p2' q2' := by
  unfold useC
  have e1 : (if t1 = true then cntF (fun i => !(p1 i)) m1 else 0) = (if t1 = true then cntF (fun i => !(p1' i)) m1 else 0) := by
    by_cases ht : t1 = true
    · rw [if_pos ht, if_pos ht]; exact cntF_congr m1 (fun j hj => by rw [h1 ht j hj])
    · rw [if_neg ht, if_neg ht]
  have e2 : (if t2 = true then cntF (fun i => !(p2 i || (t1 && q2 i))) m2 else 0) = (if t2 = true then cntF (fun i => !(p2' i || (t1 && q2' i))) m2 else 0) := by
    by_cases ht : t2 = true
    · rw [if_pos ht, if_pos ht]
      refine cntF_congr m2 (fun j hj => ?_)
      rw [h2 ht j hj]
      cases t1
      · rfl
      · rw [h3 rfl ht j hj]
    · rw [if_neg ht, if_neg ht]
  rw [e1, e2]
theorem useR_congr {f g : Nat → Int32} {n0 m1 m2 : Nat} {t1 t2 : Bool} (h0 : n0 ≤ 31) (h1 : m1 ≤ 31) (h2 : m2 ≤ 31) (h : ∀ x, x < 93 → f x = g x) : useR f n0 m1 m2 t1 t2 = useR g n0 m1 m2 t1 t2 := by
  have a0 : ∀ i, i < n0 → sec f 0 i = sec g 0 i := fun i hi => h _ (by omega)
  have a1 : ∀ i, i < m1 → sec f 1 i = sec g 1 i := fun i hi => h _ (by omega)
  have a2 : ∀ i, i < m2 → sec f 2 i = sec g 2 i := fun i hi => h _ (by omega)
  refine useC_congr (fun _ i hi => ?_) (fun _ i hi => ?_) (fun _ _ i hi => ?_)
  · show memF _ _ _ = memF _ _ _; rw [a1 i hi]; exact memF_congr a0
  · show memF _ _ _ = memF _ _ _; rw [a2 i hi]; exact memF_congr a0
  · show memF _ _ _ = memF _ _ _; rw [a2 i hi]; exact memF_congr a1
theorem cntF_le1 (p : Nat → Bool) (n : Nat) : cntF p (n + 1) ≤ cntF p n + 1 := by show cntF p n + _ ≤ _; split <;> omega
theorem useC_le {n0 m1 m2 : Nat} {t1 t2 : Bool} {p1 p2 q2 : Nat → Bool} : useC n0 m1 m2 t1 t2 p1 p2 q2 ≤ n0 + m1 + m2 := by
  unfold useC
  have a := cntF_le (fun i => !(p1 i)) m1
  have b := cntF_le (fun i => !(p2 i || (t1 && q2 i))) m2
  split <;> split <;> omega
/-- settle over the reference's own cells -/
def kpR (fk fv : Nat → Int32) (n3 n0 : Nat) : Nat → Bool := kpT (hiK (sec fk 3)) (hiK (sec fk 0)) (sec fk 3) (sec fv 3) (sec fk 0) (sec fv 0) n3 n0
def olR (fk : Nat → Int32) (n0 : Nat) : Nat → Nat := fun j => (fnK (sec fk 0) n0 (sec fk 3 j)).getD 0
def nwR (fk fv : Nat → Int32) (n3 n0 m : Nat) : Nat := cntF (fun j => !(kpR fk fv n3 n0 j)) m
def stR (fi fk fv : Nat → Int32) (n3 n0 made m : Nat) : Nat → Int32 := setl fi made (kpR fk fv n3 n0) (olR fk n0) m
theorem putB6 {c0 c1 c2 c3 c4 c5 : Nat × va_E} (w1 : va_W) (h : w1.length = 6) : putB [c0, c1, c2, c3, c4, c5] [0, 1, 2, 3, 4, 5] w1 = w1 := by
  match w1, h with
  | [d0, d1, d2, d3, d4, d5], _ => rfl
theorem shF_lo {f : Nat → Int32} {a n j : Nat} (h : j ≤ a) : shF f a n j = f j := by unfold shF; rw [if_neg (by omega)]
theorem sdF_hi {f : Nat → Int32} {a b j : Nat} (h : b ≤ j) : sdF f a b j = f j := by unfold sdF; rw [if_neg (by omega)]
