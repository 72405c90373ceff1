/-! My own rows over the kit's: the whole state of a walk as data (pc, locals, world, stack); heap, written places and the locals' array stay inside WX. -/
abbrev XT : Type := Program × Launch × Env × Room × State × MethodId × Array Value × List Frame × Method × Code × va_G × (Nat → Prop) × Nat × (State → Prop)
abbrev x_p (X : XT) : Program := X.1
abbrev x_l (X : XT) : Launch := X.2.1
abbrev x_e (X : XT) : Env := X.2.2.1
abbrev x_R (X : XT) : Room := X.2.2.2.1
abbrev x_s (X : XT) : State := X.2.2.2.2.1
abbrev x_m (X : XT) : MethodId := X.2.2.2.2.2.1
abbrev x_args (X : XT) : Array Value := X.2.2.2.2.2.2.1
abbrev x_below (X : XT) : List Frame := X.2.2.2.2.2.2.2.1
abbrev x_meth (X : XT) : Method := X.2.2.2.2.2.2.2.2.1
abbrev x_c (X : XT) : Code := X.2.2.2.2.2.2.2.2.2.1
abbrev x_D (X : XT) : va_G := X.2.2.2.2.2.2.2.2.2.2.1
abbrev x_A (X : XT) : Nat → Prop := X.2.2.2.2.2.2.2.2.2.2.2.1
abbrev x_nL (X : XT) : Nat := X.2.2.2.2.2.2.2.2.2.2.2.2.1
abbrev x_Q (X : XT) : State → Prop := X.2.2.2.2.2.2.2.2.2.2.2.2.2
def WX (X : XT) (k n pc : Nat) (lv : List (Nat × Value)) (w : va_W) (st : List Value) : Prop :=
  ∀ (H : Heap) (locs : List Loc) (ls : Array Slot), va_P (x_D X) vwCl w H → va_D (x_A X) w → va_S (x_A X) (x_s X).heap H locs → lv_has ls (x_nL X) lv →
    W (x_p X) (x_l X) (x_e X) (x_R X) (x_s X) (x_m X) (x_args X) (x_below X) (x_meth X) (x_c X) H locs k n (x_Q X) (F0 (x_m X) pc ls st)
abbrev TY : Type := List (ClassId × FieldType)
def OK (X : XT) (l : Launch) (D : va_G) (cc : ByteArray) (Ts : List Cond) (own : String) (tys : TY) (R0 : Room) (nL : Nat) : Prop :=
  (x_p X).tables.exec = Jvm.exec ∧ (x_c X).code = cc ∧ (∀ w ∈ Ts, w.before (x_args X) (x_s X) = true) ∧ (x_s X).vm.findClass own = some (x_m X).cls ∧ va_K (x_D X) vwCl tys (x_s X) ∧ (x_c X).maxLocals = nL ∧ x_R X = R0 ∧ x_l X = l ∧ x_D X = D ∧ x_nL X = nL
section XR
variable {X : XT} {l : Launch} {D : va_G} {nL : Nat} {cc : ByteArray} {Ts : List Cond} {own : String} {tys : TY} {R0 : Room} {k n pc pc' : Nat} {lv lv' : List (Nat × Value)} {w : va_W} {st : List Value}
theorem x_iconst (h : OK X l D cc Ts own tys R0 nL) (e : pc + 1 = pc') {z : Int} {v : Int32} (d : decode cc pc = .ok (.iconst z, 1)) (hv : Int32.ofInt z = v) (kk : WX X k n pc' lv w (.int v :: st)) : WX X k n pc lv w st := by
  subst e; intro H locs ls hP hD hS hl; exact lv_iconst h.1 h.2.1 d hv (kk H locs ls hP hD hS hl)
theorem x_bipush (h : OK X l D cc Ts own tys R0 nL) (e : pc + 2 = pc') {z : Int} {v : Int32} (d : decode cc pc = .ok (.bipush z, 2)) (hv : (Int8.ofInt z).toInt32 = v) (kk : WX X k n pc' lv w (.int v :: st)) : WX X k n pc lv w st := by
  subst e; intro H locs ls hP hD hS hl; exact lv_bipush h.1 h.2.1 d hv (kk H locs ls hP hD hS hl)
theorem x_sipush (h : OK X l D cc Ts own tys R0 nL) (e : pc + 3 = pc') {z : Int} {v : Int32} (d : decode cc pc = .ok (.sipush z, 3)) (hv : (Int16.ofInt z).toInt32 = v) (kk : WX X k n pc' lv w (.int v :: st)) : WX X k n pc lv w st := by
  subst e; intro H locs ls hP hD hS hl; exact lv_sipush h.1 h.2.1 d hv (kk H locs ls hP hD hS hl)
theorem x_ldc (h : OK X l D cc Ts own tys R0 nL) (e : pc + 2 = pc') {index : Nat} {v : Int32} (hc : Cond.constant own index v ∈ Ts) (d : decode cc pc = .ok (.ldc index, 2)) (kk : WX X k n pc' lv w (.int v :: st)) : WX X k n pc lv w st := by
  subst e; intro H locs ls hP hD hS hl; exact lv_ldc h.1 h.2.1 h.2.2.2.1 (h.2.2.1 _ hc) d (kk H locs ls hP hD hS hl)
theorem x_iload_n (h : OK X l D cc Ts own tys R0 nL) (e : pc + 1 = pc') {j : Fin 4} {i : Nat} {x : Int32} (d : decode cc pc = .ok (.iload_n j, 1)) (q : Nat) (hi : (j : Nat) = i) (hq : lv[q]? = some (i, .int x)) (kk : WX X k n pc' lv w (.int x :: st)) : WX X k n pc lv w st := by
  subst e; intro H locs ls hP hD hS hl; exact lv_iload_n h.1 h.2.1 d hi (lv_at hl q hq) (kk H locs ls hP hD hS hl)
theorem x_iload (h : OK X l D cc Ts own tys R0 nL) (e : pc + 2 = pc') {i : Nat} {x : Int32} (d : decode cc pc = .ok (.iload i, 2)) (q : Nat) (hq : lv[q]? = some (i, .int x)) (kk : WX X k n pc' lv w (.int x :: st)) : WX X k n pc lv w st := by
  subst e; intro H locs ls hP hD hS hl; exact lv_iload h.1 h.2.1 d (lv_at hl q hq) (kk H locs ls hP hD hS hl)
theorem x_aload_n (h : OK X l D cc Ts own tys R0 nL) (e : pc + 1 = pc') {j : Fin 4} {i : Nat} {x : Nat} (d : decode cc pc = .ok (.aload_n j, 1)) (q : Nat) (hi : (j : Nat) = i) (hq : lv[q]? = some (i, .ref x)) (kk : WX X k n pc' lv w (.ref x :: st)) : WX X k n pc lv w st := by
  subst e; intro H locs ls hP hD hS hl; exact lv_aload_n h.1 h.2.1 d hi (lv_at hl q hq) (kk H locs ls hP hD hS hl)
theorem x_aload (h : OK X l D cc Ts own tys R0 nL) (e : pc + 2 = pc') {i : Nat} {x : Nat} (d : decode cc pc = .ok (.aload i, 2)) (q : Nat) (hq : lv[q]? = some (i, .ref x)) (kk : WX X k n pc' lv w (.ref x :: st)) : WX X k n pc lv w st := by
  subst e; intro H locs ls hP hD hS hl; exact lv_aload h.1 h.2.1 d (lv_at hl q hq) (kk H locs ls hP hD hS hl)
theorem x_istore_n (h : OK X l D cc Ts own tys R0 nL) (e : pc + 1 = pc') {j : Fin 4} {i : Nat} {x : Int32} (d : decode cc pc = .ok (.istore_n j, 1)) (hi : (j : Nat) = i) (hn : i < nL) (hl' : (i, Value.int x) :: lv.filter (fun q => !(q.1 == i) && !(q.1 + 1 == i && q.2.category == 2)) = lv') (kk : WX X k n pc' lv' w st) : WX X k n pc lv w (.int x :: st) := by
  subst e; intro H locs ls hP hD hS hl; have hnL := h.2.2.2.2.2.2.2.2.2; rw [hnL] at hl; exact lv_istore_n h.1 h.2.1 d hi hl hn hl' (fun ls' hl' => kk H locs ls' hP hD hS (by rw [hnL]; exact hl'))
theorem x_istore (h : OK X l D cc Ts own tys R0 nL) (e : pc + 2 = pc') {i : Nat} {x : Int32} (d : decode cc pc = .ok (.istore i, 2)) (hn : i < nL) (hl' : (i, Value.int x) :: lv.filter (fun q => !(q.1 == i) && !(q.1 + 1 == i && q.2.category == 2)) = lv') (kk : WX X k n pc' lv' w st) : WX X k n pc lv w (.int x :: st) := by
  subst e; intro H locs ls hP hD hS hl; have hnL := h.2.2.2.2.2.2.2.2.2; rw [hnL] at hl; exact lv_istore h.1 h.2.1 d hl hn hl' (fun ls' hl' => kk H locs ls' hP hD hS (by rw [hnL]; exact hl'))
theorem x_astore_n (h : OK X l D cc Ts own tys R0 nL) (e : pc + 1 = pc') {j : Fin 4} {i : Nat} {x : Nat} (d : decode cc pc = .ok (.astore_n j, 1)) (hi : (j : Nat) = i) (hn : i < nL) (hl' : (i, Value.ref x) :: lv.filter (fun q => !(q.1 == i) && !(q.1 + 1 == i && q.2.category == 2)) = lv') (kk : WX X k n pc' lv' w st) : WX X k n pc lv w (.ref x :: st) := by
  subst e; intro H locs ls hP hD hS hl; have hnL := h.2.2.2.2.2.2.2.2.2; rw [hnL] at hl; exact lv_astore_n h.1 h.2.1 d hi hl hn hl' (fun ls' hl' => kk H locs ls' hP hD hS (by rw [hnL]; exact hl'))
theorem x_iinc (h : OK X l D cc Ts own tys R0 nL) (e : pc + 3 = pc') {i : Nat} {z : Int} {x v : Int32} (d : decode cc pc = .ok (.iinc i z, 3)) (q : Nat) (hq : lv[q]? = some (i, .int x)) (hv : x + Int32.ofInt z = v) (hn : i < nL) (hl' : (i, Value.int v) :: lv.filter (fun q => !(q.1 == i) && !(q.1 + 1 == i && q.2.category == 2)) = lv') (kk : WX X k n pc' lv' w st) : WX X k n pc lv w st := by
  subst e; intro H locs ls hP hD hS hl; have hnL := h.2.2.2.2.2.2.2.2.2; rw [hnL] at hl; exact lv_iinc h.1 h.2.1 d hl hq hv hn hl' (fun ls' hl' => kk H locs ls' hP hD hS (by rw [hnL]; exact hl'))
theorem x_iadd (h : OK X l D cc Ts own tys R0 nL) (e : pc + 1 = pc') {x y z : Int32} (d : decode cc pc = .ok (.iadd, 1)) (hv : x + y = z) (kk : WX X k n pc' lv w (.int z :: st)) : WX X k n pc lv w (.int y :: .int x :: st) := by
  subst e; subst hv; intro H locs ls hP hD hS hl; exact lv_iadd h.1 h.2.1 d (kk H locs ls hP hD hS hl)
theorem x_isub (h : OK X l D cc Ts own tys R0 nL) (e : pc + 1 = pc') {x y z : Int32} (d : decode cc pc = .ok (.isub, 1)) (hv : x - y = z) (kk : WX X k n pc' lv w (.int z :: st)) : WX X k n pc lv w (.int y :: .int x :: st) := by
  subst e; subst hv; intro H locs ls hP hD hS hl; exact lv_isub h.1 h.2.1 d (kk H locs ls hP hD hS hl)
theorem x_imul (h : OK X l D cc Ts own tys R0 nL) (e : pc + 1 = pc') {x y z : Int32} (d : decode cc pc = .ok (.imul, 1)) (hv : x * y = z) (kk : WX X k n pc' lv w (.int z :: st)) : WX X k n pc lv w (.int y :: .int x :: st) := by
  subst e; subst hv; intro H locs ls hP hD hS hl; exact lv_imul h.1 h.2.1 d (kk H locs ls hP hD hS hl)
theorem x_iand (h : OK X l D cc Ts own tys R0 nL) (e : pc + 1 = pc') {x y z : Int32} (d : decode cc pc = .ok (.iand, 1)) (hv : x &&& y = z) (kk : WX X k n pc' lv w (.int z :: st)) : WX X k n pc lv w (.int y :: .int x :: st) := by
  subst e; subst hv; intro H locs ls hP hD hS hl; exact lv_iand h.1 h.2.1 d (kk H locs ls hP hD hS hl)
theorem x_ixor (h : OK X l D cc Ts own tys R0 nL) (e : pc + 1 = pc') {x y z : Int32} (d : decode cc pc = .ok (.ixor, 1)) (hv : x ^^^ y = z) (kk : WX X k n pc' lv w (.int z :: st)) : WX X k n pc lv w (.int y :: .int x :: st) := by
  subst e; subst hv; intro H locs ls hP hD hS hl; exact lv_ixor h.1 h.2.1 d (kk H locs ls hP hD hS hl)
theorem x_iushr (h : OK X l D cc Ts own tys R0 nL) (e : pc + 1 = pc') {x y z : Int32} (d : decode cc pc = .ok (.iushr, 1)) (hv : (x.toUInt32 >>> (y.toUInt32 &&& Int32.toUInt32 31)).toInt32 = z) (kk : WX X k n pc' lv w (.int z :: st)) : WX X k n pc lv w (.int y :: .int x :: st) := by
  subst e; intro H locs ls hP hD hS hl; exact lv_iushr h.1 h.2.1 d hv (kk H locs ls hP hD hS hl)
theorem x_dup (h : OK X l D cc Ts own tys R0 nL) (e : pc + 1 = pc') {v : Value} (d : decode cc pc = .ok (.dup, 1)) (hv : v.category = 1) (kk : WX X k n pc' lv w (v :: v :: st)) : WX X k n pc lv w (v :: st) := by
  subst e; intro H locs ls hP hD hS hl; exact lv_dup h.1 h.2.1 d hv (kk H locs ls hP hD hS hl)
theorem x_dup_x1 (h : OK X l D cc Ts own tys R0 nL) (e : pc + 1 = pc') {v u : Value} (d : decode cc pc = .ok (.dup_x1, 1)) (hv : v.category = 1) (hu : u.category = 1) (kk : WX X k n pc' lv w (v :: u :: v :: st)) : WX X k n pc lv w (v :: u :: st) := by
  subst e; intro H locs ls hP hD hS hl; exact lv_dup_x1 h.1 h.2.1 d hv hu (kk H locs ls hP hD hS hl)
theorem x_dup2 (h : OK X l D cc Ts own tys R0 nL) (e : pc + 1 = pc') {v u : Value} (d : decode cc pc = .ok (.dup2, 1)) (hv : v.category = 1) (hu : u.category = 1) (kk : WX X k n pc' lv w (v :: u :: v :: u :: st)) : WX X k n pc lv w (v :: u :: st) := by
  subst e; intro H locs ls hP hD hS hl; exact lv_dup2_11 h.1 h.2.1 d hv hu (kk H locs ls hP hD hS hl)
theorem x_pop (h : OK X l D cc Ts own tys R0 nL) (e : pc + 1 = pc') {v : Value} (d : decode cc pc = .ok (.pop, 1)) (hv : v.category = 1) (kk : WX X k n pc' lv w st) : WX X k n pc lv w (v :: st) := by
  subst e; intro H locs ls hP hD hS hl; exact lv_pop h.1 h.2.1 d hv (kk H locs ls hP hD hS hl)
theorem x_goto (h : OK X l D cc Ts own tys R0 nL) {off : Int} (d : decode cc pc = .ok (.goto off, 3)) (ht : (pc : Int) + off = (pc' : Int)) (kk : WX X k n pc' lv w st) : WX X k n pc lv w st := by
  intro H locs ls hP hD hS hl; exact lv_goto h.1 h.2.1 d ht (kk H locs ls hP hD hS hl)
/-- the top of the stack under another name -/
theorem x_top {x y : Int32} (hv : x = y) (kk : WX X k n pc lv w (.int y :: st)) : WX X k n pc lv w (.int x :: st) := hv ▸ kk
/-- fewer locals, in any order -/
theorem x_lv (ks : List Nat) (hl' : lv_pick lv ks = lv') (kk : WX X k n pc lv' w st) : WX X k n pc lv w st := fun H locs ls hP hD hS hl => kk H locs ls hP hD hS (lv_sub hl ks hl')
theorem x_w {w' : va_W} (hw : w = w') (kk : WX X k n pc lv w' st) : WX X k n pc lv w st := hw ▸ kk
variable {x y : Int32} {C : Prop} {off : Int} {tg : Nat}
theorem x_icmp_eq (h : OK X l D cc Ts own tys R0 nL) (e : pc + 3 = pc') (d : decode cc pc = .ok (.if_icmp .eq off, 3)) (ht : (pc : Int) + off = (tg : Int)) (hc : x = y ↔ C) (kt : C → WX X k n tg lv w st) (kf : ¬ C → WX X k n pc' lv w st) : WX X k n pc lv w (.int y :: .int x :: st) := by
  subst e; intro H locs ls hP hD hS hl; exact lv_icmp_eq h.1 h.2.1 d ht (fun q => kt (hc.mp q) H locs ls hP hD hS hl) (fun q => kf (fun z => q (hc.mpr z)) H locs ls hP hD hS hl)
theorem x_if_eq (h : OK X l D cc Ts own tys R0 nL) (e : pc + 3 = pc') (d : decode cc pc = .ok (.ifCond .eq off, 3)) (ht : (pc : Int) + off = (tg : Int)) (hc : x = 0 ↔ C) (kt : C → WX X k n tg lv w st) (kf : ¬ C → WX X k n pc' lv w st) : WX X k n pc lv w (.int x :: st) := by
  subst e; intro H locs ls hP hD hS hl; exact lv_if_eq h.1 h.2.1 d ht (fun q => kt (hc.mp q) H locs ls hP hD hS hl) (fun q => kf (fun z => q (hc.mpr z)) H locs ls hP hD hS hl)
theorem x_icmp_ne (h : OK X l D cc Ts own tys R0 nL) (e : pc + 3 = pc') (d : decode cc pc = .ok (.if_icmp .ne off, 3)) (ht : (pc : Int) + off = (tg : Int)) (hc : x = y ↔ C) (kt : ¬ C → WX X k n tg lv w st) (kf : C → WX X k n pc' lv w st) : WX X k n pc lv w (.int y :: .int x :: st) := by
  subst e; intro H locs ls hP hD hS hl; exact lv_icmp_ne h.1 h.2.1 d ht (fun q => kt (fun z => q (hc.mpr z)) H locs ls hP hD hS hl) (fun q => kf (hc.mp q) H locs ls hP hD hS hl)
theorem x_if_ne (h : OK X l D cc Ts own tys R0 nL) (e : pc + 3 = pc') (d : decode cc pc = .ok (.ifCond .ne off, 3)) (ht : (pc : Int) + off = (tg : Int)) (hc : x = 0 ↔ C) (kt : ¬ C → WX X k n tg lv w st) (kf : C → WX X k n pc' lv w st) : WX X k n pc lv w (.int x :: st) := by
  subst e; intro H locs ls hP hD hS hl; exact lv_if_ne h.1 h.2.1 d ht (fun q => kt (fun z => q (hc.mpr z)) H locs ls hP hD hS hl) (fun q => kf (hc.mp q) H locs ls hP hD hS hl)
theorem x_icmp_lt (h : OK X l D cc Ts own tys R0 nL) (e : pc + 3 = pc') (d : decode cc pc = .ok (.if_icmp .lt off, 3)) (ht : (pc : Int) + off = (tg : Int)) (hc : x < y ↔ C) (kt : C → WX X k n tg lv w st) (kf : ¬ C → WX X k n pc' lv w st) : WX X k n pc lv w (.int y :: .int x :: st) := by
  subst e; intro H locs ls hP hD hS hl; exact lv_icmp_lt h.1 h.2.1 d ht (fun q => kt (hc.mp q) H locs ls hP hD hS hl) (fun q => kf (fun z => q (hc.mpr z)) H locs ls hP hD hS hl)
theorem x_if_lt (h : OK X l D cc Ts own tys R0 nL) (e : pc + 3 = pc') (d : decode cc pc = .ok (.ifCond .lt off, 3)) (ht : (pc : Int) + off = (tg : Int)) (hc : x < 0 ↔ C) (kt : C → WX X k n tg lv w st) (kf : ¬ C → WX X k n pc' lv w st) : WX X k n pc lv w (.int x :: st) := by
  subst e; intro H locs ls hP hD hS hl; exact lv_if_lt h.1 h.2.1 d ht (fun q => kt (hc.mp q) H locs ls hP hD hS hl) (fun q => kf (fun z => q (hc.mpr z)) H locs ls hP hD hS hl)
theorem x_icmp_ge (h : OK X l D cc Ts own tys R0 nL) (e : pc + 3 = pc') (d : decode cc pc = .ok (.if_icmp .ge off, 3)) (ht : (pc : Int) + off = (tg : Int)) (hc : y ≤ x ↔ C) (kt : C → WX X k n tg lv w st) (kf : ¬ C → WX X k n pc' lv w st) : WX X k n pc lv w (.int y :: .int x :: st) := by
  subst e; intro H locs ls hP hD hS hl; exact lv_icmp_ge h.1 h.2.1 d ht (fun q => kt (hc.mp q) H locs ls hP hD hS hl) (fun q => kf (fun z => q (hc.mpr z)) H locs ls hP hD hS hl)
theorem x_if_ge (h : OK X l D cc Ts own tys R0 nL) (e : pc + 3 = pc') (d : decode cc pc = .ok (.ifCond .ge off, 3)) (ht : (pc : Int) + off = (tg : Int)) (hc : 0 ≤ x ↔ C) (kt : C → WX X k n tg lv w st) (kf : ¬ C → WX X k n pc' lv w st) : WX X k n pc lv w (.int x :: st) := by
  subst e; intro H locs ls hP hD hS hl; exact lv_if_ge h.1 h.2.1 d ht (fun q => kt (hc.mp q) H locs ls hP hD hS hl) (fun q => kf (fun z => q (hc.mpr z)) H locs ls hP hD hS hl)
theorem x_icmp_gt (h : OK X l D cc Ts own tys R0 nL) (e : pc + 3 = pc') (d : decode cc pc = .ok (.if_icmp .gt off, 3)) (ht : (pc : Int) + off = (tg : Int)) (hc : y < x ↔ C) (kt : C → WX X k n tg lv w st) (kf : ¬ C → WX X k n pc' lv w st) : WX X k n pc lv w (.int y :: .int x :: st) := by
  subst e; intro H locs ls hP hD hS hl; exact lv_icmp_gt h.1 h.2.1 d ht (fun q => kt (hc.mp q) H locs ls hP hD hS hl) (fun q => kf (fun z => q (hc.mpr z)) H locs ls hP hD hS hl)
theorem x_if_gt (h : OK X l D cc Ts own tys R0 nL) (e : pc + 3 = pc') (d : decode cc pc = .ok (.ifCond .gt off, 3)) (ht : (pc : Int) + off = (tg : Int)) (hc : 0 < x ↔ C) (kt : C → WX X k n tg lv w st) (kf : ¬ C → WX X k n pc' lv w st) : WX X k n pc lv w (.int x :: st) := by
  subst e; intro H locs ls hP hD hS hl; exact lv_if_gt h.1 h.2.1 d ht (fun q => kt (hc.mp q) H locs ls hP hD hS hl) (fun q => kf (fun z => q (hc.mpr z)) H locs ls hP hD hS hl)
theorem x_icmp_le (h : OK X l D cc Ts own tys R0 nL) (e : pc + 3 = pc') (d : decode cc pc = .ok (.if_icmp .le off, 3)) (ht : (pc : Int) + off = (tg : Int)) (hc : x ≤ y ↔ C) (kt : C → WX X k n tg lv w st) (kf : ¬ C → WX X k n pc' lv w st) : WX X k n pc lv w (.int y :: .int x :: st) := by
  subst e; intro H locs ls hP hD hS hl; exact lv_icmp_le h.1 h.2.1 d ht (fun q => kt (hc.mp q) H locs ls hP hD hS hl) (fun q => kf (fun z => q (hc.mpr z)) H locs ls hP hD hS hl)
theorem x_if_le (h : OK X l D cc Ts own tys R0 nL) (e : pc + 3 = pc') (d : decode cc pc = .ok (.ifCond .le off, 3)) (ht : (pc : Int) + off = (tg : Int)) (hc : x ≤ 0 ↔ C) (kt : C → WX X k n tg lv w st) (kf : ¬ C → WX X k n pc' lv w st) : WX X k n pc lv w (.int x :: st) := by
  subst e; intro H locs ls hP hD hS hl; exact lv_if_le h.1 h.2.1 d ht (fun q => kt (hc.mp q) H locs ls hP hD hS hl) (fun q => kf (fun z => q (hc.mpr z)) H locs ls hP hD hS hl)
theorem x_iald (h : OK X l D cc Ts own tys R0 nL) (e : pc + 1 = pc') (q0 t0 : Nat) {a N i : Nat} {cA : ClassId} {f : Nat → Int32} {v : Int32} (ha : w[q0]? = some (a, .inl (cA, N, .inl f))) (ht : tys[t0]? = some (cA, .int)) (hi : i < N) (hN : N < 2 ^ 31) (d : decode cc pc = .ok (.iaload, 1)) (hv : f i = v) (kk : WX X k n pc' lv w (.int v :: st)) : WX X k n pc lv w (.int (nI i) :: .ref a :: st) := by
  subst e; subst hv; intro H locs ls hP hD hS hl
  refine va_iald h.1 h.2.1 h.2.2.2.2.1 hP q0 t0 ha ht (vp_in_nI hi hN) d ?_
  rw [nI_clamp (Nat.lt_trans hi hN)]; exact kk H locs ls hP hD hS hl
theorem x_zald (h : OK X l D cc Ts own tys R0 nL) (e : pc + 1 = pc') (q0 t0 : Nat) {a N i : Nat} {cA : ClassId} {f : Nat → Int32} {v : Int32} (ha : w[q0]? = some (a, .inl (cA, N, .inl f))) (ht : tys[t0]? = some (cA, .boolean)) (hi : i < N) (hN : N < 2 ^ 31) (d : decode cc pc = .ok (.baload, 1)) (hv : f i = v) (kk : WX X k n pc' lv w (.int v :: st)) : WX X k n pc lv w (.int (nI i) :: .ref a :: st) := by
  subst e; subst hv; intro H locs ls hP hD hS hl
  refine va_zald h.1 h.2.1 h.2.2.2.2.1 hP q0 t0 ha ht (vp_in_nI hi hN) d ?_
  rw [nI_clamp (Nat.lt_trans hi hN)]; exact kk H locs ls hP hD hS hl
theorem x_aald (h : OK X l D cc Ts own tys R0 nL) (e : pc + 1 = pc') (q0 t0 : Nat) {a N i b : Nat} {cA : ClassId} {C : String} {f : Nat → Option Nat} (ha : w[q0]? = some (a, .inl (cA, N, .inr (.inr (.inr (.inr f)))))) (ht : tys[t0]? = some (cA, .object C)) (hi : i < N) (hN : N < 2 ^ 31) (d : decode cc pc = .ok (.aaload, 1)) (hv : f i = some b) (kk : WX X k n pc' lv w (.ref b :: st)) : WX X k n pc lv w (.int (nI i) :: .ref a :: st) := by
  subst e; intro H locs ls hP hD hS hl
  refine va_aldq h.1 h.2.1 h.2.2.2.2.1 hP q0 t0 ha ht (vp_in_nI hi hN) d ?_
  rw [nI_clamp (Nat.lt_trans hi hN), hv]; exact kk H locs ls hP hD hS hl
theorem x_iast (h : OK X l D cc Ts own tys R0 nL) (e : pc + 1 = pc') (q0 t0 : Nat) {a N i : Nat} {cA : ClassId} {f : Nat → Int32} {v : Int32} {w' : va_W} (ha : w[q0]? = some (a, .inl (cA, N, .inl f))) (ht : tys[t0]? = some (cA, .int)) (hi : i < N) (hN : N < 2 ^ 31) (d : decode cc pc = .ok (.iastore, 1)) (hw : w.set q0 (a, .inl (cA, N, .inl (upd f i v))) = w') (kk : WX X k n pc' lv w' st) : WX X k n pc lv w (.int v :: .int (nI i) :: .ref a :: st) := by
  subst e; subst hw; intro H locs ls hP hD hS hl
  refine va_iast h.1 h.2.1 h.2.2.2.2.1 hP hD hS q0 t0 ha ht (vp_in_nI hi hN) d ?_
  rw [nI_clamp (Nat.lt_trans hi hN)]; intro H1 locs1 hP1 hD1 hS1; exact kk H1 locs1 ls hP1 hD1 hS1 hl
theorem x_zast (h : OK X l D cc Ts own tys R0 nL) (e : pc + 1 = pc') (q0 t0 : Nat) {a N i : Nat} {cA : ClassId} {f : Nat → Int32} {v : Int32} {w' : va_W} (ha : w[q0]? = some (a, .inl (cA, N, .inl f))) (ht : tys[t0]? = some (cA, .boolean)) (hi : i < N) (hN : N < 2 ^ 31) (d : decode cc pc = .ok (.bastore, 1)) (hb : vp_nar .boolean v = v) (hw : w.set q0 (a, .inl (cA, N, .inl (upd f i v))) = w') (kk : WX X k n pc' lv w' st) : WX X k n pc lv w (.int v :: .int (nI i) :: .ref a :: st) := by
  subst e; subst hw; intro H locs ls hP hD hS hl
  refine va_zast h.1 h.2.1 h.2.2.2.2.1 hP hD hS q0 t0 ha ht (vp_in_nI hi hN) d ?_
  rw [nI_clamp (Nat.lt_trans hi hN), hb]; intro H1 locs1 hP1 hD1 hS1; exact kk H1 locs1 ls hP1 hD1 hS1 hl
theorem x_get (h : OK X l D cc Ts own tys R0 nL) (e : pc + 3 = pc') {C ref : String} {T : u_T} {N ci index a : Nat} (hin : ∀ c ∈ u_ws C T N, c ∈ Ts) (q0 j : Nat) {fs : List Value} {v : Value} (he : w[q0]? = some (a, .inr (ci, fs))) (hc : vwCl[ci]? = some (C, T, N)) (hj : j < N) (hlink : Cond.fieldLink own index ref (T j).2.1 (T j).2.2.1 ∈ Ts) (href : (T j).1 = ref) (hv : fs[j]? = some v) (d : decode cc pc = .ok (.getfield index, 3)) (kk : WX X k n pc' lv w (v :: st)) : WX X k n pc lv w (.ref a :: st) := by
  subst e; subst href; intro H locs ls hP hD hS hl
  exact va_get h.1 h.2.1 h.2.2.1 hin h.2.2.2.1 h.2.2.2.2.1 hP q0 he hc j hj (h.2.2.1 _ hlink) (fun _ z => z) hv d (kk H locs ls hP hD hS hl)
theorem x_put (h : OK X l D cc Ts own tys R0 nL) (e : pc + 3 = pc') {C ref : String} {T : u_T} {N ci index a : Nat} (hin : ∀ c ∈ u_ws C T N, c ∈ Ts) {ty0 : Nat → FieldType} (hty : ∀ k, k < N → parseFieldDescriptor (T k).2.2.1 = some (ty0 k)) (hnm : ∀ a, a < N → ∀ b, b < N → a ≠ b → (T a).2.1 ≠ (T b).2.1) (q0 j : Nat) {fs : List Value} {v : Value} {w' : va_W} {ty : FieldType} (he : w[q0]? = some (a, .inr (ci, fs))) (hc : vwCl[ci]? = some (C, T, N)) (hj : j < N) (hlink : Cond.fieldLink own index ref (T j).2.1 (T j).2.2.1 ∈ Ts) (href : (T j).1 = ref) (hfin : (T j).2.2.2 = false) (hd : ty0 j = ty) (hn : narrow ty v = v) (hfit : fits ty v = true) (hl : j < fs.length) (hw : w.set q0 (a, .inr (ci, fs.set j v)) = w') (d : decode cc pc = .ok (.putfield index, 3)) (kk : WX X k n pc' lv w' st) : WX X k n pc lv w (v :: .ref a :: st) := by
  subst e; subst href; subst hw; intro H locs ls hP hD hS hl'
  exact va_put h.1 h.2.1 h.2.2.1 hin ty0 hty hnm h.2.2.2.1 h.2.2.2.2.1 hP hD hS q0 he hc j hj (h.2.2.1 _ hlink) (fun _ z => z) hfin (by rw [hty j hj, hd]) hn hfit hl d (fun H1 locs1 hP1 hD1 hS1 => kk H1 locs1 ls hP1 hD1 hS1 hl')
end XR
/-! Calls: a callee's cells come back to their own places -/
def ad (w : va_W) : Nat → Prop := fun q => q ∈ w.map Prod.fst
def putB : va_W → List Nat → va_W → va_W
  | w, [], _ => w
  | w, _ :: _, [] => w
  | w, i :: is, q :: w1 => putB (w.set i q) is w1
theorem putB_or : ∀ (is : List Nat) (w w1 : va_W) (k : Nat) (q : Nat × va_E), is.length = w1.length → (putB w is w1)[k]? = some q → (∃ j : Nat, w1[j]? = some q) ∨ (k ∉ is ∧ w[k]? = some q)
  | [], w, [], k, q, _, h => Or.inr ⟨List.not_mem_nil, h⟩
  | [], w, _ :: _, k, q, hl, h => by simp at hl
  | i :: is, w, [], k, q, hl, h => by simp at hl
  | i :: is, w, q0 :: w1, k, q, hl, h => by
    rcases putB_or is (w.set i q0) w1 k q (by simpa using hl) h with ⟨j, hj⟩ | ⟨h1, h2⟩
    · exact Or.inl ⟨j + 1, by simpa using hj⟩
    · by_cases hki : k = i
      · subst hki
        rw [List.getElem?_set] at h2
        simp at h2
        exact Or.inl ⟨0, by simp [h2.2]⟩
      · rw [List.getElem?_set_ne (Ne.symm hki)] at h2
        exact Or.inr ⟨by simp [hki, h1], h2⟩
theorem putB_fst : ∀ (is : List Nat) (w w1 : va_W), is.map (fun i => (w.map Prod.fst)[i]?) = (w1.map Prod.fst).map some → (putB w is w1).map Prod.fst = w.map Prod.fst
  | [], w, w1, _ => by cases w1 <;> simp [putB]
  | i :: is, w, [], h => by simp at h
  | i :: is, w, q0 :: w1, h => by
    simp only [List.map_cons, List.cons.injEq] at h
    have hs : (w.set i q0).map Prod.fst = w.map Prod.fst := by
      rw [List.map_set]
      apply List.ext_getElem?
      intro k
      by_cases hk : i = k
      · subst hk
        rw [List.getElem?_set]
        by_cases hlt : i < (w.map Prod.fst).length
        · simp only [hlt, if_true]; exact h.1.symm
        · simp only [hlt, if_true]; rw [List.getElem?_eq_none (Nat.le_of_not_lt hlt)]; simp
      · rw [List.getElem?_set_ne hk]
    show (putB (w.set i q0) is w1).map Prod.fst = _
    rw [putB_fst is (w.set i q0) w1 (by rw [hs]; exact h.2), hs]
theorem vd_fst {A : Nat → Prop} {w w' : va_W} (h : va_D A w) (e : w'.map Prod.fst = w.map Prod.fst) : va_D A w' := by
  have key : ∀ (k : Nat) (q : Nat × va_E), w'[k]? = some q → ∃ q', w[k]? = some q' ∧ q'.1 = q.1 := by
    intro k q hk
    have h1 : (w'.map Prod.fst)[k]? = some q.1 := by rw [List.getElem?_map, hk]; rfl
    rw [e, List.getElem?_map] at h1
    cases hw : w[k]? with
    | none => rw [hw] at h1; cases h1
    | some q' => rw [hw] at h1; exact ⟨q', rfl, Option.some.inj h1⟩
  refine ⟨fun i j p q hi hj hpq => ?_, fun k q hk => ?_⟩
  · obtain ⟨p', hp', ep⟩ := key i p hi
    obtain ⟨q', hq', eq'⟩ := key j q hj
    exact h.1 i j p' q' hp' hq' (by rw [ep, eq', hpq])
  · obtain ⟨q', hq', eq'⟩ := key k q hk
    rw [← eq']; exact h.2 k q' hq'
theorem ad_of {w : va_W} {k : Nat} {q : Nat × va_E} (h : w[k]? = some q) : ad w q.1 := List.mem_map.mpr ⟨q, List.mem_of_getElem? h, rfl⟩
theorem ad_sub {A : Nat → Prop} {w wc : va_W} (hD : va_D A w) (is : List Nat) (hC : is.map (fun i => w[i]?) = wc.map some) : ∀ q, ad wc q → A q := by
  intro q hq
  obtain ⟨c, hc, rfl⟩ := List.mem_map.mp hq
  have h1 : some c ∈ is.map (fun i => w[i]?) := by rw [hC]; exact List.mem_map.mpr ⟨c, hc, rfl⟩
  obtain ⟨i, -, hi⟩ := List.mem_map.mp h1
  exact hD.2 i c hi
theorem putB_P {A : Nat → Prop} {D : va_G} {cl : List vw_C} {w wc w1 : va_W} {H H1 : Heap} (hP : va_P D cl w H) (hD : va_D A w) (is : List Nat) (hC : is.map (fun i => w[i]?) = wc.map some) (e : w1.map Prod.fst = wc.map Prod.fst) (hk : ∀ q : Nat, q < H.size → ¬ ad wc q → H1[q]? = H[q]?) (hP1 : va_P D cl w1 H1) : va_P D cl (putB w is w1) H1 := by
  intro k q hq
  have hlen : is.length = w1.length := by
    have h1 : is.length = wc.length := by simpa using congrArg List.length hC
    have h2 : w1.length = wc.length := by simpa using congrArg List.length e
    rw [h1, h2]
  rcases putB_or is w w1 k q hlen hq with ⟨j, hj⟩ | ⟨h1, h2⟩
  · exact hP1 j q hj
  · have hat := hP k q h2
    refine va_at.kept hat (hk q.1 hat.lt ?_)
    intro had
    obtain ⟨c, hc, hce⟩ := List.mem_map.mp had
    have h3 : some c ∈ is.map (fun i => w[i]?) := by rw [hC]; exact List.mem_map.mpr ⟨c, hc, rfl⟩
    obtain ⟨i, hi1, hi⟩ := List.mem_map.mp h3
    have : k = i := hD.1 k i q c h2 hi hce.symm
    exact h1 (this ▸ hi1)
theorem putB_D {A : Nat → Prop} {w wc w1 : va_W} (hD : va_D A w) (is : List Nat) (hC : is.map (fun i => w[i]?) = wc.map some) (e : w1.map Prod.fst = wc.map Prod.fst) : va_D A (putB w is w1) := by
  refine vd_fst hD (putB_fst is w w1 ?_)
  rw [e]
  have : is.map (fun i => (w.map Prod.fst)[i]?) = (is.map (fun i => w[i]?)).map (Option.map Prod.fst) := by
    rw [List.map_map]; apply List.map_congr_left; intro i _; simp
  rw [this, hC, List.map_map, List.map_map]; rfl
/-- a contract: world w before, world w' behind at the same addresses; nothing else changes -/
def CPre (D : va_G) (tys : TY) (av : List Value) (w : va_W) : Array Value → State → Prop := va_Pc av (fun U => va_P D vwCl w U.heap ∧ va_K D vwCl tys U ∧ va_D (fun _ => True) w)
def CI (l : Launch) (y : MethodName) (wsw : List Cond) (rm : Room) (D : va_G) (tys : TY) (av : List Value) (w : va_W) (P : Int32 → va_W → Prop) : Prop :=
  Met l y wsw rm (CPre D tys av w) (va_Qi (fun r (w' : va_W) => P r w' ∧ w'.map Prod.fst = w.map Prod.fst) (fun w' t => va_P D vwCl w' t.heap) (ad w)) 0 0 (ad w)
def CV (l : Launch) (y : MethodName) (wsw : List Cond) (rm : Room) (D : va_G) (tys : TY) (av : List Value) (w : va_W) (P : va_W → Prop) : Prop :=
  Met l y wsw rm (CPre D tys av w) (va_Qv (fun (w' : va_W) => P w' ∧ w'.map Prod.fst = w.map Prod.fst) (fun w' t => va_P D vwCl w' t.heap) (ad w)) 0 0 (ad w)
theorem cpre_blind (D : va_G) (tys : TY) (av : List Value) (w : va_W) : FrameBlind (CPre D tys av w) := by
  intro a U g mk q
  obtain ⟨q0, qP, qK, qD⟩ := q
  exact ⟨q0, qP, va_K.moved (u := U) (U := U.calling g mk a) (Vm.Alike.refl U.vm) qK, qD⟩
theorem x_metI {l : Launch} {y : MethodName} {wsw ws' : List Cond} {rm : Room} {D : va_G} {tys : TY} {av : List Value} {w : va_W} {P : Int32 → va_W → Prop} {cc : ByteArray} {maxL : Nat} {own : String} {lv : List (Nat × Value)} (hy : plainName y.cls = true) (ho : y.cls = own) (hw : wsw = Cond.code y cc maxL (some .int) :: ws') (hlen : (lg_sl av).length ≤ maxL) (hlv : lv_args 0 av = lv)
    (body : ∀ X : XT, OK X l D cc wsw own tys rm maxL → (∀ (r : Int32) (w' : va_W) (pc : Nat) (lv : List (Nat × Value)), decode cc pc = .ok (.ireturn, 1) → w'.map Prod.fst = w.map Prod.fst → P r w' → WX X 0 0 pc lv w' [.int r]) → WX X 0 0 0 lv w []) : CI l y wsw rm D tys av w P := by
  subst ho; subst hlv
  refine Met.ofW (cc := cc) (maxL := maxL) (ret := some .int) hy hw ?_
  intro p e s m args below meth c s₁ B hml hv
  obtain ⟨rfl, hP, hK, hD0⟩ := hv
  have hts := atoms_spec (ws := wsw) B.pre
  have hown := findClass_of_methodNamed B.named
  have hlocks := B.notSynchronized
  have hl := lv_entry av (n := maxL) hlen
  rw [lg_entry_eq]
  exact body (p, l, e, (headSpec wsw rm).room, s, m, av.toArray, below, meth, c, D, ad w, maxL, _) ⟨B.exec, B.bytes, hts, hown, hK, hml, rfl, rfl, rfl, rfl⟩
    (fun r w' pc lv d hm hp H locs ls hP' hD' hS' hl' => W.iret B.exec B.bytes B.returns (fun t ht hW => ⟨⟨r, w', rfl, ⟨hp, hm⟩, by show va_P D vwCl w' t.heap; rw [ht]; exact hP'⟩, hS'.F ht⟩) hS'.2.2 d) s.heap [] _ hP ⟨hD0.1, fun k q hq => ad_of hq⟩ va_S.rf hl
theorem x_metZ {l : Launch} {y : MethodName} {wsw ws' : List Cond} {rm : Room} {D : va_G} {tys : TY} {av : List Value} {w : va_W} {P : Int32 → va_W → Prop} {cc : ByteArray} {maxL : Nat} {own : String} {lv : List (Nat × Value)} (hy : plainName y.cls = true) (ho : y.cls = own) (hw : wsw = Cond.code y cc maxL (some .boolean) :: ws') (hlen : (lg_sl av).length ≤ maxL) (hlv : lv_args 0 av = lv)
    (body : ∀ X : XT, OK X l D cc wsw own tys rm maxL → (∀ (r : Int32) (w' : va_W) (pc : Nat) (lv : List (Nat × Value)), narrow .boolean (.int r) = .int r → decode cc pc = .ok (.ireturn, 1) → w'.map Prod.fst = w.map Prod.fst → P r w' → WX X 0 0 pc lv w' [.int r]) → WX X 0 0 0 lv w []) : CI l y wsw rm D tys av w P := by
  subst ho; subst hlv
  refine Met.ofW (cc := cc) (maxL := maxL) (ret := some .boolean) hy hw ?_
  intro p e s m args below meth c s₁ B hml hv
  obtain ⟨rfl, hP, hK, hD0⟩ := hv
  have hts := atoms_spec (ws := wsw) B.pre
  have hown := findClass_of_methodNamed B.named
  have hlocks := B.notSynchronized
  have hl := lv_entry av (n := maxL) hlen
  rw [lg_entry_eq]
  exact body (p, l, e, (headSpec wsw rm).room, s, m, av.toArray, below, meth, c, D, ad w, maxL, _) ⟨B.exec, B.bytes, hts, hown, hK, hml, rfl, rfl, rfl, rfl⟩
    (fun r w' pc lv hnr d hm hp H locs ls hP' hD' hS' hl' => W.zret B.exec B.bytes B.returns hnr (fun t ht hW => ⟨⟨r, w', rfl, ⟨hp, hm⟩, by show va_P D vwCl w' t.heap; rw [ht]; exact hP'⟩, hS'.F ht⟩) hS'.2.2 d) s.heap [] _ hP ⟨hD0.1, fun k q hq => ad_of hq⟩ va_S.rf hl
theorem x_metV {l : Launch} {y : MethodName} {wsw ws' : List Cond} {rm : Room} {D : va_G} {tys : TY} {av : List Value} {w : va_W} {P : va_W → Prop} {cc : ByteArray} {maxL : Nat} {own : String} {lv : List (Nat × Value)} (hy : plainName y.cls = true) (ho : y.cls = own) (hw : wsw = Cond.code y cc maxL none :: ws') (hlen : (lg_sl av).length ≤ maxL) (hlv : lv_args 0 av = lv)
    (body : ∀ X : XT, OK X l D cc wsw own tys rm maxL → (∀ (w' : va_W) (pc : Nat) (lv : List (Nat × Value)), decode cc pc = .ok (.return_, 1) → w'.map Prod.fst = w.map Prod.fst → P w' → WX X 0 0 pc lv w' []) → WX X 0 0 0 lv w []) : CV l y wsw rm D tys av w P := by
  subst ho; subst hlv
  refine Met.ofW (cc := cc) (maxL := maxL) (ret := none) hy hw ?_
  intro p e s m args below meth c s₁ B hml hv
  obtain ⟨rfl, hP, hK, hD0⟩ := hv
  have hts := atoms_spec (ws := wsw) B.pre
  have hown := findClass_of_methodNamed B.named
  have hlocks := B.notSynchronized
  have hl := lv_entry av (n := maxL) hlen
  rw [lg_entry_eq]
  exact body (p, l, e, (headSpec wsw rm).room, s, m, av.toArray, below, meth, c, D, ad w, maxL, _) ⟨B.exec, B.bytes, hts, hown, hK, hml, rfl, rfl, rfl, rfl⟩
    (fun w' pc lv d hm hp H locs ls hP' hD' hS' hl' => W.vret B.exec B.bytes B.returns (fun t ht hW => ⟨⟨w', rfl, ⟨hp, hm⟩, by show va_P D vwCl w' t.heap; rw [ht]; exact hP'⟩, hS'.F ht⟩) hS'.2.2 d) s.heap [] _ hP ⟨hD0.1, fun k q hq => ad_of hq⟩ va_S.rf hl
section XC
variable {X : XT} {l : Launch} {D : va_G} {nL : Nat} {cc : ByteArray} {Ts : List Cond} {own : String} {tys : TY} {R0 : Room} {k n pc pc' : Nat} {lv lv' : List (Nat × Value)} {w : va_W} {st : List Value}
variable {y : MethodName} {wsw ws' : List Cond} {bytes : ByteArray} {maxL index ci b : Nat} {ret : Option FieldType} {rm : Room} {wc : va_W} {fs : List Value} {C : String} {qc : vw_C}
theorem x_Psub {D : va_G} {cl : List vw_C} {w wc : va_W} {H : Heap} (hP : va_P D cl w H) (is : List Nat) (hC : is.map (fun i => w[i]?) = wc.map some) : va_P D cl wc H := fun j q hj => by
  have h1 : (is.map (fun i => w[i]?))[j]? = some (some q) := by rw [hC, List.getElem?_map, hj]; rfl
  rw [List.getElem?_map] at h1
  cases hi : is[j]? with
  | none => rw [hi] at h1; cases h1
  | some i => rw [hi] at h1; exact hP i q (Option.some.inj h1)
theorem x_vI {P : Int32 → va_W → Prop} (h : OK X l D cc Ts own tys R0 nL) (e : pc + 3 = pc') (As : List Value) (hM : CI l y wsw rm D tys (.ref b :: As) wc P) (d : decode cc pc = .ok (.invokevirtual index, 3)) (nA : Nat) (hG : GoodIn Ts (wsV own index C y wsw)) (hw : wsw = Cond.code y bytes maxL ret :: ws') (hrm : rm.cells = 0 ∧ rm.slots = 0)
    (hd : y.cls = C ∧ y.cls ≠ "java/lang/invoke/MethodHandle" ∧ y.cls ≠ "java/lang/invoke/VarHandle" ∧ (parseMethodDescriptor y.desc).map (fun d => d.parameters.length) = some nA) (hR : rm.frames + 1 ≤ R0.frames ∧ 8 + (maxL + 11) + rm.locals ≤ R0.locals) (hkn : k ≤ R0.cells ∧ n ≤ R0.slots)
    (q0 : Nat) (hc : vwCl[ci]? = some qc) (hqc : qc.1 = C) (he : w[q0]? = some (b, .inr (ci, fs))) (is : List Nat) (hnd : va_nd is = true) (hC : is.map (fun i => w[i]?) = wc.map some) (hn : As.length = nA) (hst : (st.map fun v => v.category).sum ≤ 8) {st0 : List Value} (hst0 : st0 = As.reverse ++ .ref b :: st)
    (kk : ∀ (r : Int32) (w1 : va_W), P r w1 → w1.map Prod.fst = wc.map Prod.fst → WX X k n pc' lv (putB w is w1) (.int r :: st)) : WX X k n pc lv w st0 := by
  subst e; subst hst0; subst hqc
  obtain ⟨hx, hb, hts, hown, hK, hml, hR0, hl, hD, hnL⟩ := h
  subst hl; subst hD; subst hR0
  intro H locs ls hP hDw hS hlv
  have hCsub : ∀ q, ad wc q → x_A X q := ad_sub hDw is hC
  have hPc : va_P (x_D X) vwCl wc H := x_Psub hP is hC
  have hDc : va_D (fun _ => True) wc := (hDw.sub is hnd hC).weaken (fun _ _ _ _ => trivial)
  refine va_calli (va_runV (As := As) (rest := st) ⟨hx, hb, hml, hown, hts⟩ hM (cwV nA hts hG hw hrm.1 hrm.2 hd hR) ⟨cpre_blind _ _ _ _, va_recv hK hP hc he, fun U hU hW => ⟨rfl, by rw [hU]; exact hPc, va_K.moved hW.alike hK, hDc⟩⟩ rfl hn (hlv.1.trans hnL) rfl (lv_room hst) d hkn) hS (fun q _ z => hCsub q z) hCsub (fun r u t H1 locs1 ht hvm hw hB hz1 hk1 hS1 => ?_)
  rw [ht] at hB
  exact kk r u hw.1 hw.2 H1 locs1 ls (putB_P hP hDw is hC hw.2 hk1 hB) (putB_D hDw is hC hw.2) hS1 hlv
theorem x_vV {P : va_W → Prop} (h : OK X l D cc Ts own tys R0 nL) (e : pc + 3 = pc') (As : List Value) (hM : CV l y wsw rm D tys (.ref b :: As) wc P) (d : decode cc pc = .ok (.invokevirtual index, 3)) (nA : Nat) (hG : GoodIn Ts (wsV own index C y wsw)) (hw : wsw = Cond.code y bytes maxL ret :: ws') (hrm : rm.cells = 0 ∧ rm.slots = 0)
    (hd : y.cls = C ∧ y.cls ≠ "java/lang/invoke/MethodHandle" ∧ y.cls ≠ "java/lang/invoke/VarHandle" ∧ (parseMethodDescriptor y.desc).map (fun d => d.parameters.length) = some nA) (hR : rm.frames + 1 ≤ R0.frames ∧ 8 + (maxL + 11) + rm.locals ≤ R0.locals) (hkn : k ≤ R0.cells ∧ n ≤ R0.slots)
    (q0 : Nat) (hc : vwCl[ci]? = some qc) (hqc : qc.1 = C) (he : w[q0]? = some (b, .inr (ci, fs))) (is : List Nat) (hnd : va_nd is = true) (hC : is.map (fun i => w[i]?) = wc.map some) (hn : As.length = nA) (hst : (st.map fun v => v.category).sum ≤ 8) {st0 : List Value} (hst0 : st0 = As.reverse ++ .ref b :: st)
    (kk : ∀ (w1 : va_W), P w1 → w1.map Prod.fst = wc.map Prod.fst → WX X k n pc' lv (putB w is w1) st) : WX X k n pc lv w st0 := by
  subst e; subst hst0; subst hqc
  obtain ⟨hx, hb, hts, hown, hK, hml, hR0, hl, hD, hnL⟩ := h
  subst hl; subst hD; subst hR0
  intro H locs ls hP hDw hS hlv
  have hCsub : ∀ q, ad wc q → x_A X q := ad_sub hDw is hC
  have hPc : va_P (x_D X) vwCl wc H := x_Psub hP is hC
  have hDc : va_D (fun _ => True) wc := (hDw.sub is hnd hC).weaken (fun _ _ _ _ => trivial)
  refine va_callv (va_runV (As := As) (rest := st) ⟨hx, hb, hml, hown, hts⟩ hM (cwV nA hts hG hw hrm.1 hrm.2 hd hR) ⟨cpre_blind _ _ _ _, va_recv hK hP hc he, fun U hU hW => ⟨rfl, by rw [hU]; exact hPc, va_K.moved hW.alike hK, hDc⟩⟩ rfl hn (hlv.1.trans hnL) rfl (lv_room hst) d hkn) hS (fun q _ z => hCsub q z) hCsub (fun u t H1 locs1 ht hvm hw hB hz1 hk1 hS1 => ?_)
  rw [ht] at hB
  exact kk u hw.1 hw.2 H1 locs1 ls (putB_P hP hDw is hC hw.2 hk1 hB) (putB_D hDw is hC hw.2) hS1 hlv
theorem x_sI {P : Int32 → va_W → Prop} (h : OK X l D cc Ts own tys R0 nL) (e : pc + 3 = pc') (As : List Value) (hM : CI l y wsw rm D tys As wc P) (d : decode cc pc = .ok (.invokestatic index, 3)) (nA : Nat) (hG : GoodIn Ts (wsS own index y wsw)) (hw : wsw = Cond.code y bytes maxL ret :: ws') (hrm : rm.cells = 0 ∧ rm.slots = 0)
    (hd : y.cls = own ∧ y.cls ≠ "java/lang/invoke/MethodHandle" ∧ y.cls ≠ "java/lang/invoke/VarHandle" ∧ (parseMethodDescriptor y.desc).map (fun d => d.parameters.length) = some nA) (hR : rm.frames + 1 ≤ R0.frames ∧ 8 + (maxL + 11) + rm.locals ≤ R0.locals) (hkn : k ≤ R0.cells ∧ n ≤ R0.slots)
    (is : List Nat) (hnd : va_nd is = true) (hC : is.map (fun i => w[i]?) = wc.map some) (hn : As.length = nA) (hst : (st.map fun v => v.category).sum ≤ 8) {st0 : List Value} (hst0 : st0 = As.reverse ++ st)
    (kk : ∀ (r : Int32) (w1 : va_W), P r w1 → w1.map Prod.fst = wc.map Prod.fst → WX X k n pc' lv (putB w is w1) (.int r :: st)) : WX X k n pc lv w st0 := by
  subst e; subst hst0
  obtain ⟨hx, hb, hts, hown, hK, hml, hR0, hl, hD, hnL⟩ := h
  subst hl; subst hD; subst hR0
  intro H locs ls hP hDw hS hlv
  have hCsub : ∀ q, ad wc q → x_A X q := ad_sub hDw is hC
  have hPc : va_P (x_D X) vwCl wc H := x_Psub hP is hC
  have hDc : va_D (fun _ => True) wc := (hDw.sub is hnd hC).weaken (fun _ _ _ _ => trivial)
  refine va_calli (va_runS (As := As) (rest := st) ⟨hx, hb, hml, hown, hts⟩ hM (cwS nA hts hG hw hrm.1 hrm.2 hd hR) ⟨cpre_blind _ _ _ _, fun U hU hW => ⟨rfl, by rw [hU]; exact hPc, va_K.moved hW.alike hK, hDc⟩⟩ rfl hn (hlv.1.trans hnL) rfl (lv_room hst) d hkn) hS (fun q _ z => hCsub q z) hCsub (fun r u t H1 locs1 ht hvm hw hB hz1 hk1 hS1 => ?_)
  rw [ht] at hB
  exact kk r u hw.1 hw.2 H1 locs1 ls (putB_P hP hDw is hC hw.2 hk1 hB) (putB_D hDw is hC hw.2) hS1 hlv
end XC
