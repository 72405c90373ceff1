set_option maxRecDepth 100000 in
set_option maxHeartbeats 4000000 in
theorem law_main {X : XT} {l : Launch} {D : va_G} {cI cZ cS : ClassId} {b L : Nat} {xs : Nat → Int32} (hL : LX X l D cI cZ cS b L xs) (hA : ∀ q, (x_s X).heap.size ≤ q → x_A X q) (hE : EX (x_s X)) (Z : ∀ (lv : List (Nat × Value)) (w : va_W), WX X 31 1067 482 lv w []) : WX X 0 0 0 [(0, .ref b)] [] [] := by
  have h := hL.1
  refine x_new (ci := 2) (fs := [.null, .null, .null, .null, .null, .int (nI 0), .int (nI 0), .int (nI 0), .int (nI 0), .int (nI 0), .int (nI 0)]) h hA (pc' := 3) rfl (fun c q => bgl (in2 c q)) ok2 (bgl clL_7) (bgl ist2) (bgl ini2) rfl (fun j hj => by rcases (show j = 0 ∨ j = 1 ∨ j = 2 ∨ j = 3 ∨ j = 4 ∨ j = 5 ∨ j = 6 ∨ j = 7 ∨ j = 8 ∨ j = 9 ∨ j = 10 by omega) with rfl | rfl | rfl | rfl | rfl | rfl | rfl | rfl | rfl | rfl | rfl <;> rfl) (by decide) (by decide) dL_law_0 (fun q0 => ?_)
  refine x_dup h (pc' := 4) rfl dL_law_3 rfl ?_
  refine x_iP (wr := []) h hA (pc' := 7) rfl (k2_init l D cI cZ cS q0) dL_law_4 (gd_LI cd2_init) rfl ⟨rfl, rfl⟩ (bgl mlL_9) (bgl ini2) hdc2 ⟨by decide, by decide⟩ rfl (bgl imc2) (fun U hW => ⟨va_Nw.warmM hW hE.1, va_Nw.warmM hW hE.2.1, va_AO.moved hW.alike hE.2.2⟩) (fun U g mk a hU => ⟨va_Nw.same rfl rfl hU.1, va_Nw.same rfl rfl hU.2.1, va_AO.moved (Vm.Alike.refl U.vm) hU.2.2⟩) ⟨by decide, by decide⟩ [0] [] rfl rfl rfl rfl (by decide) (Nat.le_of_ble_eq_true rfl) (fun w1 p1 => ?_)
  obtain ⟨A, hA0, rfl⟩ := p1
  refine x_w (w' := wX A cI cZ cS z0 z0 z0 z0 (nI 0) z0 z0 z0 z0 (nI 0) z0 z0 z0 z0 (nI 0) z0 z0 z0 z0 (nI 0) z0 z0 (nI 0) (nI 0) (nI 0) (nI 0) (-1) (nI 0) (nI 0)) rfl ?_
  refine x_astore_n (lv' := [(1, .ref q0), (0, .ref b)]) h (pc' := 8) rfl dL_law_7 rfl (by decide) rfl ?_
  refine x_new (ci := 3) (fs := [.null, .null, .null, .null, .null, .int (nI 0), .int (nI 0), .int (nI 0), .int (nI 0), .int (nI 0), .int (nI 0), .int (nI 0), .int (nI 0)]) h hA (pc' := 11) rfl (fun c q => bgl (in3 c q)) ok3 (bgl clL_10) (bgl ist3) (bgl ini3) rfl (fun j hj => by rcases (show j = 0 ∨ j = 1 ∨ j = 2 ∨ j = 3 ∨ j = 4 ∨ j = 5 ∨ j = 6 ∨ j = 7 ∨ j = 8 ∨ j = 9 ∨ j = 10 ∨ j = 11 ∨ j = 12 by omega) with rfl | rfl | rfl | rfl | rfl | rfl | rfl | rfl | rfl | rfl | rfl | rfl | rfl <;> rfl) (by decide) (by decide) dL_law_8 (fun o => ?_)
  refine x_dup h (pc' := 12) rfl dL_law_11 rfl ?_
  refine x_iP (wr := wX A cI cZ cS z0 z0 z0 z0 (nI 0) z0 z0 z0 z0 (nI 0) z0 z0 z0 z0 (nI 0) z0 z0 z0 z0 (nI 0) z0 z0 (nI 0) (nI 0) (nI 0) (nI 0) (-1) (nI 0) (nI 0)) h hA (pc' := 15) rfl (k3_init l D cI cZ cS o) dL_law_12 (gd_LI cd3_init) rfl ⟨rfl, rfl⟩ (bgl mlL_12) (bgl ini3) hdc3 ⟨by decide, by decide⟩ rfl (bgl imc3) (fun _ _ => trivial) (fun _ _ _ _ _ => trivial) ⟨by decide, by decide⟩ [25] [0, 1, 2, 3, 4, 5, 6, 7, 8, 9, 10, 11, 12, 13, 14, 15, 16, 17, 18, 19, 20, 21, 22, 23, 24] rfl nd25 rfl (mapL rfl) (by decide) (Nat.le_of_ble_eq_true rfl) (fun w2 p2 => ?_)
  obtain ⟨a1, a2, a3, a4, a5, rfl⟩ := p2
  refine x_astore_n (lv' := [(2, .ref o), (1, .ref q0), (0, .ref b)]) h (pc' := 16) rfl dL_law_15 rfl (by decide) rfl ?_
  refine x_iconst (v := (nI 0)) h (pc' := 17) rfl dL_law_16 (by decide) ?_
  refine x_istore_n (lv' := [(3, .int (nI 0)), (2, .ref o), (1, .ref q0), (0, .ref b)]) h (pc' := 18) rfl dL_law_17 rfl (by decide) rfl ?_
  refine x_wide (k' := 31) (n' := 1067) (by decide) (by decide) ?_
  have hT : TI 0 q0 o cI cZ cS (wX A cI cZ cS z0 z0 z0 z0 (nI 0) z0 z0 z0 z0 (nI 0) z0 z0 z0 z0 (nI 0) z0 z0 z0 z0 (nI 0) z0 z0 (nI 0) (nI 0) (nI 0) (nI 0) (-1) (nI 0) (nI 0)) (wR o a1 a2 a3 a4 a5 cI cZ z0 z0 z0 z0 z0 (nI 0) (nI 0) (nI 0) (nI 0) (nI 0) (-1) (nI 0) (nI 0)) := ⟨A, z0, z0, z0, z0, 0, z0, z0, z0, z0, 0, z0, z0, z0, z0, 0, z0, z0, z0, z0, 0, z0, z0, nI 0, a1, a2, a3, a4, a5, z0, z0, z0, z0, z0, 0, false, false, false, false, false, false, -1, nI 0, nI 0, (fun _ => 0), (fun _ => 0), (fun _ => 0), (fun _ => 0), (fun _ => 0), (fun _ => 0), (fun _ => 0), (fun _ => 0), hA0, rfl, rfl, ⟨⟨by omega, by omega, by omega, by omega⟩, ⟨rfl, rfl, rfl, rfl⟩, rfl, rfl, rfl, rfl⟩, ⟨fun _ => rfl, by decide, by omega⟩, ⟨⟨fun i hi => absurd hi (Nat.not_lt_zero i), fun i hi => absurd hi (Nat.not_lt_zero i), fun i j _ hj => absurd hj (Nat.not_lt_zero j)⟩, fun i hi => absurd hi (Nat.not_lt_zero i), fun i hi => absurd hi (Nat.not_lt_zero i), fun i hi => absurd hi (Nat.not_lt_zero i), fun i j _ hj => absurd hj (Nat.not_lt_zero j), fun i j _ hj => absurd hj (Nat.not_lt_zero j)⟩, (fun q => absurd q (by decide)), (fun q => absurd q (by decide)), (fun q => absurd q (by decide)), (fun q => absurd q (by decide))⟩
  exact law_loop hL Z (L + 1) 0 0 _ _ rfl (by omega) (by omega) hT
set_option maxRecDepth 100000 in
set_option maxHeartbeats 4000000 in
/-- THE LAW, from its entry -/
theorem whole_start {p : Program} {e : Env} {s : State} {m : MethodId} {below : List Frame} {meth : Method} {c : Code} (l : Launch) {b L : Nat} {xs : Nat → Int32} (hL : L ≤ 1536) (C0 : lw_At p s m meth c b L xs) : W p l e room_1 s m #[Value.ref b] below meth c s.heap [] 0 0 (lw_Z below #[Value.ref b] s) (entryFrame m ([Value.ref b] : List Value).toArray 4) := by
  obtain ⟨hx, hb, hr, hml, hown, hts, hX, hbl, hlocks, hgv⟩ := id C0
  obtain ⟨c0, s0, hKn0⟩ := u_known (C := R0) (T := T0) (N := 2) (n := 2) hts (fun w h => bgl (in0 w h)) (hts _ (bgl ist0))
  obtain ⟨c1, s1, hKn1⟩ := u_known (C := R1) (T := T1) (N := 5) (n := 5) hts (fun w h => bgl (in1 w h)) (hts _ (bgl ist1))
  obtain ⟨c2, s2, hKn2⟩ := u_known (C := R2) (T := T2) (N := 11) (n := 11) hts (fun w h => bgl (in2 w h)) (hts _ (bgl ist2))
  obtain ⟨c3, s3, hKn3⟩ := u_known (C := R3) (T := T3) (N := 13) (n := 13) hts (fun w h => bgl (in3 w h)) (hts _ (bgl ist3))
  obtain ⟨dC, dI, hKc⟩ : ∃ (dC : Nat → ClassId) (dI : Nat → Nat → Nat), ∀ (k : Nat) (q : vw_C), vwCl[k]? = some q → u_Kn s q.1 q.2.1 q.2.2 (dC k) (dI k) := by
    refine ⟨fun k => if k = 0 then c0 else if k = 1 then c1 else if k = 2 then c2 else c3, fun k => if k = 0 then s0 else if k = 1 then s1 else if k = 2 then s2 else s3, ?_⟩
    intro k q hq
    match k, hq with
    | 0, hq => cases hq; exact hKn0
    | 1, hq => cases hq; exact hKn1
    | 2, hq => cases hq; exact hKn2
    | 3, hq => cases hq; exact hKn3
    | k + 4, hq => simp [vwCl] at hq
  obtain ⟨cI, kI, pI, eI1, eI2, eI3⟩ := Cond.arrayClass_spec (hts _ (bgl arI))
  obtain ⟨cZ, kZ, pZ, eZ1, eZ2, eZ3⟩ := Cond.arrayClass_spec (hts _ (bgl arZ))
  obtain ⟨pS, cS, kS, eS1, -, eS3, eS4, eS5⟩ := Cond.arrayOver_spec (hts _ aoS)
  have hK : va_K (dC, dI) vwCl (TS3 cI cZ cS) s := by
    refine ⟨hKc, fun k q hq => ?_⟩
    match k, hq with
    | 0, hq => cases hq; exact ⟨fun n z => ⟨fun k h => (by cases h), kI, eI2, pI, eI3⟩, eI1⟩
    | 1, hq => cases hq; exact ⟨fun n z => ⟨fun k h => (by cases h), kZ, eZ2, pZ, eZ3⟩, eZ1⟩
    | 2, hq => cases hq; exact ⟨fun n z => ⟨fun k h => (by cases h), kS, eS3, pS, eS4⟩, kS, pS, eS3, eS4, eS1, eS5⟩
    | k + 3, hq => simp at hq
  have hl := lv_entry ([.ref b]) (n := 4) (Nat.le_of_ble_eq_true rfl)
  rw [lg_entry_eq]
  have hLX : LX (p, l, e, room_1, s, m, #[Value.ref b], below, meth, c, (dC, dI), (fun q : Nat => s.heap.size ≤ q), 4, lw_Z below #[Value.ref b] s) l (dC, dI) cI cZ cS b L xs := ⟨⟨hx, hb, hts, hown, hK, hml, rfl, rfl, rfl, rfl⟩, hX, hbl, Nat.not_le.mpr hbl, hL⟩
  refine law_main hLX (fun _ h => h) ⟨va_Nw.of rfl (hts _ nst9), va_Nw.of rfl (hts _ nst29), va_AO.of (hts _ aoS)⟩ (fun lv w => ?_) s.heap [] _ (fun k q h => by simp at h) ⟨fun i j p q h => by simp at h, fun k q h => by simp at h⟩ va_S.rf hl
  refine x_iconst (v := 1) hLX.1 (pc' := 483) rfl dL_law_482 (by decide) ?_
  intro H locs ls hP hD hS hl
  refine va_forget (fun q hq => hS.2.2 q hq) ?_
  refine W.widen (k := 600000) (n := 7302250) (by omega) (by omega) ?_
  exact lw_ret hx hb hr hlocks dL_law_483
