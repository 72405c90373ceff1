/-! Rows of constructors -/
section XN
variable {X : XT} {l : Launch} {D : va_G} {nL : Nat} {cc : ByteArray} {Ts : List Cond} {own : String} {tys : TY} {R0 : Room} {k n pc pc' : Nat} {lv lv' : List (Nat × Value)} {w : va_W} {st : List Value}
theorem x_newi (h : OK X l D cc Ts own tys R0 nL) (hA : ∀ q, (x_s X).heap.size ≤ q → x_A X q) (e : pc + 2 = pc') (harr : Cond.arrayClass .int ∈ Ts) (t0 : Nat) {cA : ClassId} (ht : tys[t0]? = some (cA, .int)) {N : Nat} (hN : N < 1000) (hc : k + 1 ≤ R0.cells) (hs : n + N ≤ R0.slots) (d : decode cc pc = .ok (.newarray .int, 2)) (kk : ∀ q : Nat, WX X (k + 1) (n + N) pc' lv (w ++ [(q, .inl (cA, N, .inl (fun _ => 0)))]) (.ref q :: st)) : WX X k n pc lv w (.int (nI N) :: st) := by
  subst e
  obtain ⟨hx, hb, hts, hown, hK, hml, hR0, hl, hD, hnL⟩ := h
  subst hR0
  intro H locs ls hP hDw hS hlv
  have h8 : componentBytes .int ≤ 8 := by decide
  have hby : N * componentBytes .int ≤ 536870912 := Nat.le_trans (Nat.mul_le_mul (Nat.le_of_lt hN) h8) (by decide)
  refine va_newa (atype := .int) (ty := .int) (a0 := (N, .inl (fun _ => 0))) hx hb (hts _ harr) rfl hK hP hDw hS hA (fun cA => rfl) (nI_pos (by omega)) (nI_clamp (by omega)) hby hc hs d (fun q cB H1 hK1 hP1 hD1 hS1 => ?_)
  have hB := (hK1.2 tys.length (cB, .int) (by simp)).2
  have hC := (hK.2 t0 (cA, .int) ht).2
  have e : cB = cA := Option.some.inj (hB.symm.trans hC)
  subst e
  exact kk q H1 locs ls hP1 hD1 hS1 hlv
theorem x_newz (h : OK X l D cc Ts own tys R0 nL) (hA : ∀ q, (x_s X).heap.size ≤ q → x_A X q) (e : pc + 2 = pc') (harr : Cond.arrayClass .boolean ∈ Ts) (t0 : Nat) {cA : ClassId} (ht : tys[t0]? = some (cA, .boolean)) {N : Nat} (hN : N < 1000) (hc : k + 1 ≤ R0.cells) (hs : n + N ≤ R0.slots) (d : decode cc pc = .ok (.newarray .boolean, 2)) (kk : ∀ q : Nat, WX X (k + 1) (n + N) pc' lv (w ++ [(q, .inl (cA, N, .inl (fun _ => 0)))]) (.ref q :: st)) : WX X k n pc lv w (.int (nI N) :: st) := by
  subst e
  obtain ⟨hx, hb, hts, hown, hK, hml, hR0, hl, hD, hnL⟩ := h
  subst hR0
  intro H locs ls hP hDw hS hlv
  have h8 : componentBytes .boolean ≤ 8 := by decide
  have hby : N * componentBytes .boolean ≤ 536870912 := Nat.le_trans (Nat.mul_le_mul (Nat.le_of_lt hN) h8) (by decide)
  refine va_newa (atype := .boolean) (ty := .boolean) (a0 := (N, .inl (fun _ => 0))) hx hb (hts _ harr) rfl hK hP hDw hS hA (fun cA => rfl) (nI_pos (by omega)) (nI_clamp (by omega)) hby hc hs d (fun q cB H1 hK1 hP1 hD1 hS1 => ?_)
  have hB := (hK1.2 tys.length (cB, .boolean) (by simp)).2
  have hC := (hK.2 t0 (cA, .boolean) ht).2
  have e : cB = cA := Option.some.inj (hB.symm.trans hC)
  subst e
  exact kk q H1 locs ls hP1 hD1 hS1 hlv
theorem x_anew (h : OK X l D cc Ts own tys R0 nL) (hA : ∀ q, (x_s X).heap.size ≤ q → x_A X q) (e : pc + 3 = pc') {C : String} {index : Nat} (hcl : Cond.classLink own index C ∈ Ts) (hao : va_AO C (x_s X)) (t0 : Nat) {cA : ClassId} (ht : tys[t0]? = some (cA, .object C)) {N : Nat} (hN : N < 1000) (hc : k + 1 ≤ R0.cells) (hs : n + N ≤ R0.slots) (d : decode cc pc = .ok (.anewarray index, 3)) (kk : ∀ q : Nat, WX X (k + 1) (n + N) pc' lv (w ++ [(q, .inl (cA, N, .inr (.inr (.inr (.inr (fun _ => none))))))]) (.ref q :: st)) : WX X k n pc lv w (.int (nI N) :: st) := by
  subst e
  obtain ⟨hx, hb, hts, hown, hK, hml, hR0, hl, hD, hnL⟩ := h
  subst hR0
  intro H locs ls hP hDw hS hlv
  refine va_newq hx hb hown (hts _ hcl) hao hK hP hDw hS hA (nI_pos (by omega)) (nI_clamp (by omega)) (by omega) hc hs d (fun q cB H1 hK1 hP1 hD1 hS1 => ?_)
  obtain ⟨-, -, -, -, -, hB⟩ := (hK1.2 tys.length (cB, .object C) (by simp)).2
  obtain ⟨-, -, -, -, -, hC⟩ := (hK.2 t0 (cA, .object C) ht).2
  have e : cB = cA := Option.some.inj (hB.symm.trans hC)
  subst e
  exact kk q H1 locs ls hP1 hD1 hS1 hlv
theorem x_aast (h : OK X l D cc Ts own tys R0 nL) (e : pc + 1 = pc') (q0 t0 qk ci : Nat) {a N i v : Nat} {cA : ClassId} {r : vw_C} {vs : List Value} {f : Nat → Option Nat} {w' : va_W} (ha : w[q0]? = some (a, .inl (cA, N, .inr (.inr (.inr (.inr f)))))) (ht : tys[t0]? = some (cA, .object r.1)) (hv : w[qk]? = some (v, .inr (ci, vs))) (hc : vwCl[ci]? = some r) (hi : i < N) (hN : N < 2 ^ 31) (d : decode cc pc = .ok (.aastore, 1)) (hw : w.set q0 (a, .inl (cA, N, .inr (.inr (.inr (.inr (va_up f i (some v))))))) = w') (kk : WX X k n pc' lv w' st) : WX X k n pc lv w (.ref v :: .int (nI i) :: .ref a :: st) := by
  subst e; subst hw; intro H locs ls hP hD hS hl
  refine va_astq h.1 h.2.1 h.2.2.2.2.1 hP hD hS q0 t0 qk ci ha ht hv hc (vp_in_nI hi hN) d ?_
  rw [nI_clamp (Nat.lt_trans hi hN)]; intro H1 locs1 hP1 hD1 hS1; exact kk H1 locs1 ls hP1 hD1 hS1 hl
theorem x_new (h : OK X l D cc Ts own tys R0 nL) (hA : ∀ q, (x_s X).heap.size ≤ q → x_A X q) (e : pc + 3 = pc') {C : String} {T : u_T} {N ci index : Nat} {ty0 : Nat → FieldType} (hin : ∀ c ∈ u_ws C T N, c ∈ Ts) (hty : ∀ k, k < N → parseFieldDescriptor (T k).2.2.1 = some (ty0 k)) (hcl : Cond.classLink own index C ∈ Ts) (hinst : Cond.instantiable C N ∈ Ts) (hini : Cond.initialized C ∈ Ts) (hc : vwCl[ci]? = some (C, T, N)) {fs : List Value} (hfs : ∀ j, j < N → defaultValue (ty0 j) = vp_V fs j) (hcells : k + 1 ≤ R0.cells) (hslots : n + N ≤ R0.slots) (d : decode cc pc = .ok (.new index, 3)) (kk : ∀ q : Nat, WX X (k + 1) (n + N) pc' lv (w ++ [(q, .inr (ci, fs))]) (.ref q :: st)) : WX X k n pc lv w st := by
  subst e
  obtain ⟨hx, hb, hts, hown, hK, hml, hR0, hl, hD, hnL⟩ := h
  subst hR0
  intro H locs ls hP hDw hS hlv
  exact va_new hx hb hts hin ty0 hty hown (hts _ hcl) (hts _ hinst) (hts _ hini) hK hP hDw hS hA hc hfs hcells hslots d (fun q H1 hP1 hD1 hS1 => kk q H1 locs ls hP1 hD1 hS1 hlv)
theorem x_objinit (h : OK X l D cc Ts own tys R0 nL) (e : pc + 3 = pc') {index a : Nat} (hlink : Cond.methodLink own index Lib.objectInit ∈ Ts) (him : Cond.instanceMethod Lib.objectInit ∈ Ts) (hco : Cond.code Lib.objectInit ⟨#[0xb1]⟩ 1 none ∈ Ts) (hst : (st.map fun v => v.category).sum ≤ 8) (hfr : 1 ≤ R0.frames) (hlo : 20 ≤ R0.locals) (d : decode cc pc = .ok (.invokespecial index, 3)) (kk : WX X k n pc' lv w st) : WX X k n pc lv w (.ref a :: st) := by
  subst e
  obtain ⟨hx, hb, hts, hown, hK, hml, hR0, hl, hD, hnL⟩ := h
  subst hR0
  intro H locs ls hP hDw hS hlv
  refine W.objInit hx hb hown (hts _ hlink) (hts _ him) (hts _ hco) rfl (hlv.1.trans (hnL.trans hml.symm)) rfl d hfr ?_ (kk H locs ls hP hDw hS hlv)
  have := lv_room (m := x_m X) (pc := pc) (ls := ls) (rest := .ref a :: st) hst
  omega
theorem x_putF (h : OK X l D cc Ts own tys R0 nL) (hin2 : (x_meth X).name = "<init>") (e : pc + 3 = pc') {C ref : String} {T : u_T} {N ci index a : Nat} (hin : ∀ c ∈ u_ws C T N, c ∈ Ts) {ty0 : Nat → FieldType} (hty : ∀ k, k < N → parseFieldDescriptor (T k).2.2.1 = some (ty0 k)) (hnm : ∀ a, a < N → ∀ b, b < N → a ≠ b → (T a).2.1 ≠ (T b).2.1) (q0 j : Nat) {fs : List Value} {v : Value} {w' : va_W} {ty : FieldType} (he : w[q0]? = some (a, .inr (ci, fs))) (hc : vwCl[ci]? = some (C, T, N)) (hj : j < N) (hlink : Cond.fieldLink own index ref (T j).2.1 (T j).2.2.1 ∈ Ts) (href : (T j).1 = ref) (hfin : (T j).2.2.2 = true) (hdecl : (T j).1 = own) (hd : ty0 j = ty) (hn : narrow ty v = v) (hfit : fits ty v = true) (hl : j < fs.length) (hw : w.set q0 (a, .inr (ci, fs.set j v)) = w') (d : decode cc pc = .ok (.putfield index, 3)) (kk : WX X k n pc' lv w' st) : WX X k n pc lv w (v :: .ref a :: st) := by
  subst e; subst href; subst hw; intro H locs ls hP hD hS hl'
  exact va_putF h.1 h.2.1 h.2.2.1 hin ty0 hty hnm h.2.2.2.1 h.2.2.2.2.1 hP hD hS q0 he hc j hj (h.2.2.1 _ hlink) (fun _ z => z) hfin hin2 hdecl (by rw [hty j hj, hd]) hn hfit hl d (fun H1 locs1 hP1 hD1 hS1 => kk H1 locs1 ls hP1 hD1 hS1 hl')
/-- the cells in another order -/
theorem x_sub {w' : va_W} (is : List Nat) (hnd : va_nd is = true) (hs : is.map (fun i => w[i]?) = w'.map some) (kk : WX X k n pc lv w' st) : WX X k n pc lv w st := fun H locs ls hP hD hS hl => kk H locs ls (x_Psub hP is hs) (hD.sub is hnd hs) hS hl
theorem x_wide {k' n' : Nat} (h1 : k ≤ k') (h2 : n ≤ n') (kk : WX X k' n' pc lv w st) : WX X k n pc lv w st := fun H locs ls hP hD hS hl => W.widen h1 h2 (kk H locs ls hP hD hS hl)
end XN
/-- a constructor's contract -/
def CCp (D : va_G) (tys : TY) (av : List Value) (w : va_W) (E : State → Prop) (sz : Nat) : Array Value → State → Prop := va_Pc av (fun U => U.heap.size = sz ∧ va_P D vwCl w U.heap ∧ va_K D vwCl tys U ∧ va_D (fun _ => True) w ∧ E U)
def CC (l : Launch) (y : MethodName) (wsw : List Cond) (rm : Room) (D : va_G) (tys : TY) (av : List Value) (w : va_W) (E : State → Prop) (mc ms : Nat) (P : va_W → Prop) : Prop :=
  ∀ sz : Nat, Met l y wsw rm (CCp D tys av w E sz) (va_Qv P (fun w' t => va_P D vwCl w' t.heap ∧ va_D (va_A w sz) w') (va_A w sz)) mc ms (va_A w sz)
theorem ccp_blind (D : va_G) (tys : TY) (av : List Value) (w : va_W) (E : State → Prop) (sz : Nat) (hE : ∀ (U : State) (g : JFrame) (mk : MethodId) (a : Array Value), E U → E (U.calling g mk a)) : FrameBlind (CCp D tys av w E sz) := by
  intro a U g mk q
  obtain ⟨q0, q1, qP, qK, qD, qE⟩ := q
  exact ⟨q0, q1, qP, va_K.moved (u := U) (U := U.calling g mk a) (Vm.Alike.refl U.vm) qK, qD, hE U g mk a qE⟩
theorem x_metC {l : Launch} {y : MethodName} {wsw ws' : List Cond} {rm : Room} {D : va_G} {tys : TY} {av : List Value} {w : va_W} {E : State → Prop} {mc ms : Nat} {P : va_W → Prop} {cc : ByteArray} {maxL : Nat} {own : String} {lv : List (Nat × Value)} (hy : plainName y.cls = true) (ho : y.cls = own) (hn : y.name = "<init>") (hw : wsw = Cond.code y cc maxL none :: ws') (hlen : (lg_sl av).length ≤ maxL) (hlv : lv_args 0 av = lv)
    (body : ∀ X : XT, OK X l D cc wsw own tys rm maxL → (∀ q, (x_s X).heap.size ≤ q → x_A X q) → (x_meth X).name = "<init>" → E (x_s X) → (∀ (w' : va_W) (pc : Nat) (lv : List (Nat × Value)), decode cc pc = .ok (.return_, 1) → P w' → WX X mc ms pc lv w' []) → WX X 0 0 0 lv w []) : CC l y wsw rm D tys av w E mc ms P := by
  intro sz
  subst ho; subst hlv
  refine Met.ofW (cc := cc) (maxL := maxL) (ret := none) hy hw ?_
  intro p e s m args below meth c s₁ B hml hv
  obtain ⟨rfl, rfl, hP, hK, hD0, hE⟩ := hv
  have hts := atoms_spec (ws := wsw) B.pre
  have hown := findClass_of_methodNamed B.named
  have hlocks := B.notSynchronized
  have hl := lv_entry av (n := maxL) hlen
  rw [lg_entry_eq]
  exact body (p, l, e, (headSpec wsw rm).room, s, m, av.toArray, below, meth, c, D, va_A w s.heap.size, maxL, _) ⟨B.exec, B.bytes, hts, hown, hK, hml, rfl, rfl, rfl, rfl⟩ (fun q hq => Or.inr hq) ((name_of_methodNamed B.named B.method).1.trans hn) hE
    (fun w' pc lv d hp H locs ls hP' hD' hS' hl' => W.vret B.exec B.bytes B.returns (fun t ht hW => ⟨⟨w', rfl, hp, by show va_P D vwCl w' t.heap; rw [ht]; exact hP', hD'⟩, hS'.F ht⟩) hS'.2.2 d) s.heap [] _ hP hD0.self va_S.rf hl
section XI
variable {X : XT} {l : Launch} {D : va_G} {nL : Nat} {cc : ByteArray} {Ts : List Cond} {own : String} {tys : TY} {R0 : Room} {k n pc pc' : Nat} {lv lv' : List (Nat × Value)} {w : va_W} {st : List Value}
variable {y : MethodName} {wsw ws' : List Cond} {bytes : ByteArray} {maxL index b : Nat} {rm : Room} {wc wr : va_W} {host : String} {E : State → Prop} {mc ms : Nat} {P : va_W → Prop}
theorem x_iN (h : OK X l D cc Ts own tys R0 nL) (hA : ∀ q, (x_s X).heap.size ≤ q → x_A X q) (e : pc + 3 = pc') (hM : CC l y wsw rm D tys [.ref b] wc E mc ms P) (d : decode cc pc = .ok (.invokespecial index, 3)) (hG : GoodIn Ts wsw) (hw : wsw = Cond.code y bytes maxL none :: ws') (hrm : rm.cells = mc ∧ rm.slots = ms) (hl : va_Nw (.methodLinkNest own index y host) (x_s X)) (hini : Cond.initialized y.cls ∈ Ts) (hd : y.cls ≠ "java/lang/invoke/MethodHandle" ∧ y.cls ≠ "java/lang/invoke/VarHandle" ∧ (parseMethodDescriptor y.desc).map (fun d => d.parameters.length) = some 0) (hR : rm.frames + 1 ≤ R0.frames ∧ 8 + (maxL + 11) + rm.locals ≤ R0.locals) (hyn : y.name = "<init>") (him : Cond.instanceMethod y ∈ Ts) (hEw : ∀ U : State, (x_s X).WarmedH U.vm → E U) (hEb : ∀ (U : State) (g : JFrame) (mk : MethodId) (a : Array Value), E U → E (U.calling g mk a)) (hkn : k + mc ≤ R0.cells ∧ n + ms ≤ R0.slots)
    (is ir : List Nat) (hnd : va_nd is = true) (hnr : va_nd ir = true) (hC : is.map (fun i => w[i]?) = wc.map some) (hCr : ir.map (fun i => w[i]?) = wr.map some) (hdis : ∀ i ∈ ir, i ∉ is) (hst : (st.map fun v => v.category).sum ≤ 8)
    (kk : ∀ w1 : va_W, P w1 → WX X (k + mc) (n + ms) pc' lv (wr ++ w1) st) : WX X k n pc lv w (.ref b :: st) := by
  subst e
  obtain ⟨hx, hb, hts, hown, hK, hml, hR0, hl0, hD, hnL⟩ := h
  subst hl0; subst hD; subst hR0
  intro H locs ls hP hDw hS hlv
  have hFc := va_free (wc := wc) hDw hS hA is hC
  have hPc : va_P (x_D X) vwCl wc H := x_Psub hP is hC
  have hDc : va_D (fun _ => True) wc := (hDw.sub is hnd hC).weaken (fun _ _ _ _ => trivial)
  refine va_callv (va_runIN (As := []) (rest := st) ⟨hx, hb, hml, hown, hts⟩ (hM H.size) ⟨va_cnB 0 hts hG hw hrm.1 hrm.2 hl (hts _ hini) hd hR, hyn, hts _ him⟩ ⟨ccp_blind _ _ _ _ _ _ hEb, fun U hU hW => ⟨rfl, by rw [hU], by rw [hU]; exact hPc, va_K.moved hW.alike hK, hDc, hEw U hW⟩⟩ rfl rfl (hlv.1.trans hnL) rfl (lv_room hst) d hkn) hS (fun q _ z => hFc q z) hFc (fun u t H1 locs1 ht hvm hw hB hz1 hk1 hS1 => ?_)
  rw [ht] at hB
  obtain ⟨hP2, hD2⟩ := va_join hP hDw is ir hC hCr hnr hdis hk1 hFc hB.1 hB.2
  exact kk u hw H1 locs1 ls hP2 hD2 hS1 hlv
theorem x_iP (h : OK X l D cc Ts own tys R0 nL) (hA : ∀ q, (x_s X).heap.size ≤ q → x_A X q) (e : pc + 3 = pc') (hM : CC l y wsw rm D tys [.ref b] wc E mc ms P) (d : decode cc pc = .ok (.invokespecial index, 3)) (hG : GoodIn Ts wsw) (hw : wsw = Cond.code y bytes maxL none :: ws') (hrm : rm.cells = mc ∧ rm.slots = ms) (hl : Cond.methodLink own index y ∈ Ts) (hini : Cond.initialized y.cls ∈ Ts) (hd : y.cls ≠ "java/lang/invoke/MethodHandle" ∧ y.cls ≠ "java/lang/invoke/VarHandle" ∧ (parseMethodDescriptor y.desc).map (fun d => d.parameters.length) = some 0) (hR : rm.frames + 1 ≤ R0.frames ∧ 8 + (maxL + 11) + rm.locals ≤ R0.locals) (hyn : y.name = "<init>") (him : Cond.instanceMethod y ∈ Ts) (hEw : ∀ U : State, (x_s X).WarmedH U.vm → E U) (hEb : ∀ (U : State) (g : JFrame) (mk : MethodId) (a : Array Value), E U → E (U.calling g mk a)) (hkn : k + mc ≤ R0.cells ∧ n + ms ≤ R0.slots)
    (is ir : List Nat) (hnd : va_nd is = true) (hnr : va_nd ir = true) (hC : is.map (fun i => w[i]?) = wc.map some) (hCr : ir.map (fun i => w[i]?) = wr.map some) (hdis : ∀ i ∈ ir, i ∉ is) (hst : (st.map fun v => v.category).sum ≤ 8)
    (kk : ∀ w1 : va_W, P w1 → WX X (k + mc) (n + ms) pc' lv (wr ++ w1) st) : WX X k n pc lv w (.ref b :: st) := by
  subst e
  obtain ⟨hx, hb, hts, hown, hK, hml, hR0, hl0, hD, hnL⟩ := h
  subst hl0; subst hD; subst hR0
  intro H locs ls hP hDw hS hlv
  have hFc := va_free (wc := wc) hDw hS hA is hC
  have hPc : va_P (x_D X) vwCl wc H := x_Psub hP is hC
  have hDc : va_D (fun _ => True) wc := (hDw.sub is hnd hC).weaken (fun _ _ _ _ => trivial)
  refine va_callv (va_runI (As := []) (rest := st) ⟨hx, hb, hml, hown, hts⟩ (hM H.size) (cwI 0 hts hG hw hrm.1 hrm.2 (hts _ hini) (hts _ hl) (hts _ him) hyn hd hR) ⟨ccp_blind _ _ _ _ _ _ hEb, fun U hU hW => ⟨rfl, by rw [hU], by rw [hU]; exact hPc, va_K.moved hW.alike hK, hDc, hEw U hW⟩⟩ rfl rfl (hlv.1.trans hnL) rfl (lv_room hst) d hkn) hS (fun q _ z => hFc q z) hFc (fun u t H1 locs1 ht hvm hw hB hz1 hk1 hS1 => ?_)
  rw [ht] at hB
  obtain ⟨hP2, hD2⟩ := va_join hP hDw is ir hC hCr hnr hdis hk1 hFc hB.1 hB.2
  exact kk u hw H1 locs1 ls hP2 hD2 hS1 hlv
end XI
