set_option maxRecDepth 100000 in
set_option maxHeartbeats 4000000 in
theorem k2_isKey (l : Launch) (D : va_G) (cI cZ cS : ClassId) (key : Int32) : CI l y2_isKey w2_isKey (rmd 0) D (TS3 cI cZ cS) [.int key] [] (fun r w' => r = bi (decide (¬ key < 0 ∧ ¬ 4095 < key)) ∧ w' = []) := by
  refine x_metZ (lv := [(0, .int key)]) (by decide +kernel) rfl rfl (Nat.le_of_ble_eq_true rfl) rfl ?_
  intro X h hret
  refine x_iload_n h (pc' := 1) rfl d2_isKey_0 0 rfl rfl ?_
  refine x_if_lt (tg := 15) h (pc' := 4) rfl d2_isKey_1 (by decide) Iff.rfl (fun c1 => ?_) (fun c1 => ?_)
  · skip
    refine x_iconst (v := (nI 0)) h (pc' := 16) rfl d2_isKey_15 (by decide) ?_
    exact hret _ _ _ _ rfl d2_isKey_16 rfl ⟨bi0 (decide_eq_false (fun q => by first | exact q.1 c1 | exact q.2 c8)), rfl⟩
  · skip
    refine x_iload_n h (pc' := 5) rfl d2_isKey_4 0 rfl rfl ?_
    refine x_sipush (v := (nI 4095)) h (pc' := 8) rfl d2_isKey_5 (by decide) ?_
    refine x_icmp_gt (tg := 15) h (pc' := 11) rfl d2_isKey_8 (by decide) Iff.rfl (fun c8 => ?_) (fun c8 => ?_)
    · skip
      refine x_iconst (v := (nI 0)) h (pc' := 16) rfl d2_isKey_15 (by decide) ?_
      exact hret _ _ _ _ rfl d2_isKey_16 rfl ⟨bi0 (decide_eq_false (fun q => by first | exact q.1 c1 | exact q.2 c8)), rfl⟩
    · skip
      refine x_iconst (v := (nI 1)) h (pc' := 12) rfl d2_isKey_11 (by decide) ?_
      refine x_goto (pc' := 16) h d2_isKey_12 (by decide) ?_
      exact hret _ _ _ _ rfl d2_isKey_16 rfl ⟨bi1 (decide_eq_true ⟨c1, c8⟩), rfl⟩
set_option maxRecDepth 100000 in
set_option maxHeartbeats 4000000 in
theorem k2_isValue (l : Launch) (D : va_G) (cI cZ cS : ClassId) (value : Int32) : CI l y2_isValue w2_isValue (rmd 0) D (TS3 cI cZ cS) [.int value] [] (fun r w' => r = bi (decide (¬ value < 0 ∧ ¬ 999999999 < value)) ∧ w' = []) := by
  refine x_metZ (lv := [(0, .int value)]) (by decide +kernel) rfl rfl (Nat.le_of_ble_eq_true rfl) rfl ?_
  intro X h hret
  refine x_iload_n h (pc' := 1) rfl d2_isValue_0 0 rfl rfl ?_
  refine x_if_lt (tg := 14) h (pc' := 4) rfl d2_isValue_1 (by decide) Iff.rfl (fun c1 => ?_) (fun c1 => ?_)
  · skip
    refine x_iconst (v := (nI 0)) h (pc' := 15) rfl d2_isValue_14 (by decide) ?_
    exact hret _ _ _ _ rfl d2_isValue_15 rfl ⟨bi0 (decide_eq_false (fun q => by first | exact q.1 c1 | exact q.2 c7)), rfl⟩
  · skip
    refine x_iload_n h (pc' := 5) rfl d2_isValue_4 0 rfl rfl ?_
    refine x_ldc (v := 999999999) h (pc' := 7) rfl (List.mem_cons_of_mem _ ck2_109) d2_isValue_5 ?_
    refine x_icmp_gt (tg := 14) h (pc' := 10) rfl d2_isValue_7 (by decide) Iff.rfl (fun c7 => ?_) (fun c7 => ?_)
    · skip
      refine x_iconst (v := (nI 0)) h (pc' := 15) rfl d2_isValue_14 (by decide) ?_
      exact hret _ _ _ _ rfl d2_isValue_15 rfl ⟨bi0 (decide_eq_false (fun q => by first | exact q.1 c1 | exact q.2 c7)), rfl⟩
    · skip
      refine x_iconst (v := (nI 1)) h (pc' := 11) rfl d2_isValue_10 (by decide) ?_
      refine x_goto (pc' := 15) h d2_isValue_11 (by decide) ?_
      exact hret _ _ _ _ rfl d2_isValue_15 rfl ⟨bi1 (decide_eq_true ⟨c1, c7⟩), rfl⟩
set_option maxRecDepth 100000 in
set_option maxHeartbeats 4000000 in
theorem k2_isSlot (l : Launch) (D : va_G) (cI cZ cS : ClassId) (slot : Int32) : CI l y2_isSlot w2_isSlot (rmd 0) D (TS3 cI cZ cS) [.int slot] [] (fun r w' => r = bi (decide (slot = 0 ∨ slot = 1)) ∧ w' = []) := by
  refine x_metZ (lv := [(0, .int slot)]) (by decide +kernel) rfl rfl (Nat.le_of_ble_eq_true rfl) rfl ?_
  intro X h hret
  refine x_iload_n h (pc' := 1) rfl d2_isSlot_0 0 rfl rfl ?_
  refine x_if_lt (tg := 13) h (pc' := 4) rfl d2_isSlot_1 (by decide) Iff.rfl (fun c1 => ?_) (fun c1 => ?_)
  · skip
    refine x_iconst (v := (nI 0)) h (pc' := 14) rfl d2_isSlot_13 (by decide) ?_
    exact hret _ _ _ _ rfl d2_isSlot_14 rfl ⟨bi0 (decide_eq_false (by rintro (q | q) <;> subst q <;> first | exact absurd c1 (by decide) | exact absurd c6 (by decide))), rfl⟩
  · skip
    refine x_iload_n h (pc' := 5) rfl d2_isSlot_4 0 rfl rfl ?_
    refine x_iconst (v := (nI 2)) h (pc' := 6) rfl d2_isSlot_5 (by decide) ?_
    refine x_icmp_ge (tg := 13) h (pc' := 9) rfl d2_isSlot_6 (by decide) Iff.rfl (fun c6 => ?_) (fun c6 => ?_)
    · skip
      refine x_iconst (v := (nI 0)) h (pc' := 14) rfl d2_isSlot_13 (by decide) ?_
      exact hret _ _ _ _ rfl d2_isSlot_14 rfl ⟨bi0 (decide_eq_false (by rintro (q | q) <;> subst q <;> first | exact absurd c1 (by decide) | exact absurd c6 (by decide))), rfl⟩
    · skip
      refine x_iconst (v := (nI 1)) h (pc' := 10) rfl d2_isSlot_9 (by decide) ?_
      refine x_goto (pc' := 14) h d2_isSlot_10 (by decide) ?_
      exact hret _ _ _ _ rfl d2_isSlot_14 rfl ⟨bi1 (decide_eq_true (slot01 c1 c6)), rfl⟩
set_option maxRecDepth 100000 in
set_option maxHeartbeats 4000000 in
theorem k2_isHeld (l : Launch) (D : va_G) (cI cZ cS : ClassId) (A : Nat → Nat) (fk0 fv0 fr0 fd0 : Nat → Int32) (n0 : Nat) (fk3 fv3 fr3 fd3 : Nat → Int32) (n3 : Nat) (fk1 fv1 fr1 fd1 : Nat → Int32) (n1 : Nat) (fk2 fv2 fr2 fd2 : Nat → Int32) (n2 : Nat) (ft fu : Nat → Int32) (iu : Int32) (dn rs rf : Bool) (ct ev fe : Int32) (h0 : n0 ≤ 30) (h3 : n3 ≤ 30) (h1 : n1 ≤ 30) (h2 : n2 ≤ 30) (t1 t2 : Bool) (u1 : ft 0 = bi t1) (u2 : ft 1 = bi t2) (slot : Int32) : CI l y2_isHeld w2_isHeld (rmd 1) D (TS3 cI cZ cS) [.ref (A 0), .int slot] (wX A cI cZ cS fk0 fv0 fr0 fd0 (nI n0) fk3 fv3 fr3 fd3 (nI n3) fk1 fv1 fr1 fd1 (nI n1) fk2 fv2 fr2 fd2 (nI n2) ft fu iu (bi dn) (bi rs) (bi rf) ct ev fe) (fun r w' => r = bi (decide ((slot = 0 ∧ t1 = true) ∨ (slot = 1 ∧ t2 = true))) ∧ w' = (wX A cI cZ cS fk0 fv0 fr0 fd0 (nI n0) fk3 fv3 fr3 fd3 (nI n3) fk1 fv1 fr1 fd1 (nI n1) fk2 fv2 fr2 fd2 (nI n2) ft fu iu (bi dn) (bi rs) (bi rf) ct ev fe)) := by
  refine x_metZ (lv := [(0, .ref (A 0)), (1, .int slot)]) (by decide +kernel) rfl rfl (Nat.le_of_ble_eq_true rfl) rfl ?_
  intro X h hret
  refine x_iload_n h (pc' := 1) rfl d2_isHeld_0 1 rfl rfl ?_
  -- isSlot
  refine x_sI h (pc' := 4) rfl [.int slot] (k2_isSlot l D cI cZ cS slot) d2_isHeld_1 1 (gd_S ml2_91 st2_isSlot ini2 cd2_isSlot) rfl ⟨rfl, rfl⟩ hd2_isSlot ⟨by decide, by decide⟩ ⟨Nat.zero_le _, Nat.zero_le _⟩ [] rfl rfl rfl (Nat.le_of_ble_eq_true rfl) rfl (fun rr1 ww1 pp1 ee1 => ?_)
  obtain ⟨rfl, rfl⟩ := pp1
  refine x_w (w' := (wX A cI cZ cS fk0 fv0 fr0 fd0 (nI n0) fk3 fv3 fr3 fd3 (nI n3) fk1 fv1 fr1 fd1 (nI n1) fk2 fv2 fr2 fd2 (nI n2) ft fu iu (bi dn) (bi rs) (bi rf) ct ev fe)) rfl ?_
  refine x_if_eq (tg := 20) h (pc' := 7) rfl d2_isHeld_4 (by decide) (bi_0 _) (fun c4 => ?_) (fun c4 => ?_)
  · skip
    refine x_iconst (v := (nI 0)) h (pc' := 21) rfl d2_isHeld_20 (by decide) ?_
    exact hret _ _ _ _ rfl d2_isHeld_21 rfl ⟨bi0 (decide_eq_false (by rintro (q | q) <;> exact of_decide_eq_false c4 (by first | exact Or.inl q.1 | exact Or.inr q.1))), rfl⟩
  · skip
    rcases of_decide_eq_true (ne_f c4) with hs | hs
    · skip
      obtain rfl : slot = nI 0 := hs
      refine x_aload_n h (pc' := 8) rfl d2_isHeld_7 0 rfl rfl ?_
      refine x_get h (pc' := 11) rfl (fun c q => List.mem_cons_of_mem _ (in2 c q)) 0 3 rfl rfl (by decide) (List.mem_cons_of_mem _ lk2_23) rfl rfl d2_isHeld_8 ?_
      refine x_iload_n h (pc' := 12) rfl d2_isHeld_11 1 rfl rfl ?_
      refine x_zald (v := (bi t1)) h (pc' := 13) rfl 22 1 rfl rfl (by omega) (by decide) d2_isHeld_12 u1 ?_
      refine x_if_eq (tg := 20) h (pc' := 16) rfl d2_isHeld_13 (by decide) (bi_0 _) (fun c13 => ?_) (fun c13 => ?_)
      · skip
        refine x_iconst (v := (nI 0)) h (pc' := 21) rfl d2_isHeld_20 (by decide) ?_
        exact hret _ _ _ _ rfl d2_isHeld_21 rfl ⟨bi0 (decide_eq_false (by rintro (q | q) <;> first | exact absurd q.1 (by decide) | exact absurd (c13.symm.trans q.2) (by decide))), rfl⟩
      · skip
        refine x_iconst (v := (nI 1)) h (pc' := 17) rfl d2_isHeld_16 (by decide) ?_
        refine x_goto (pc' := 21) h d2_isHeld_17 (by decide) ?_
        exact hret _ _ _ _ rfl d2_isHeld_21 rfl ⟨bi1 (decide_eq_true (Or.inl ⟨rfl, ne_f c13⟩)), rfl⟩
    · skip
      obtain rfl : slot = nI 1 := hs
      refine x_aload_n h (pc' := 8) rfl d2_isHeld_7 0 rfl rfl ?_
      refine x_get h (pc' := 11) rfl (fun c q => List.mem_cons_of_mem _ (in2 c q)) 0 3 rfl rfl (by decide) (List.mem_cons_of_mem _ lk2_23) rfl rfl d2_isHeld_8 ?_
      refine x_iload_n h (pc' := 12) rfl d2_isHeld_11 1 rfl rfl ?_
      refine x_zald (v := (bi t2)) h (pc' := 13) rfl 22 1 rfl rfl (by omega) (by decide) d2_isHeld_12 u2 ?_
      refine x_if_eq (tg := 20) h (pc' := 16) rfl d2_isHeld_13 (by decide) (bi_0 _) (fun c13 => ?_) (fun c13 => ?_)
      · skip
        refine x_iconst (v := (nI 0)) h (pc' := 21) rfl d2_isHeld_20 (by decide) ?_
        exact hret _ _ _ _ rfl d2_isHeld_21 rfl ⟨bi0 (decide_eq_false (by rintro (q | q) <;> first | exact absurd q.1 (by decide) | exact absurd (c13.symm.trans q.2) (by decide))), rfl⟩
      · skip
        refine x_iconst (v := (nI 1)) h (pc' := 17) rfl d2_isHeld_16 (by decide) ?_
        refine x_goto (pc' := 21) h d2_isHeld_17 (by decide) ?_
        exact hret _ _ _ _ rfl d2_isHeld_21 rfl ⟨bi1 (decide_eq_true (Or.inr ⟨rfl, ne_f c13⟩)), rfl⟩
set_option maxRecDepth 100000 in
set_option maxHeartbeats 4000000 in
theorem k2_cut (l : Launch) (D : va_G) (cI cZ cS : ClassId) (A : Nat → Nat) (fk0 fv0 fr0 fd0 : Nat → Int32) (n0 : Nat) (fk3 fv3 fr3 fd3 : Nat → Int32) (n3 : Nat) (fk1 fv1 fr1 fd1 : Nat → Int32) (n1 : Nat) (fk2 fv2 fr2 fd2 : Nat → Int32) (n2 : Nat) (ft fu : Nat → Int32) (iu : Int32) (dn rs rf : Bool) (ct ev fe : Int32) (h0 : n0 ≤ 30) (h3 : n3 ≤ 30) (h1 : n1 ≤ 30) (h2 : n2 ≤ 30) (n : Int32) : CI l y2_cut w2_cut (rmd 0) D (TS3 cI cZ cS) [.ref (A 0), .int n] (wX A cI cZ cS fk0 fv0 fr0 fd0 (nI n0) fk3 fv3 fr3 fd3 (nI n3) fk1 fv1 fr1 fd1 (nI n1) fk2 fv2 fr2 fd2 (nI n2) ft fu iu (bi dn) (bi rs) (bi rf) ct ev fe) (fun r w' => (¬ -1 ≤ n ∧ r = 0 ∧ w' = (wX A cI cZ cS fk0 fv0 fr0 fd0 (nI n0) fk3 fv3 fr3 fd3 (nI n3) fk1 fv1 fr1 fd1 (nI n1) fk2 fv2 fr2 fd2 (nI n2) ft fu iu (bi dn) (bi rs) (bi rf) ct ev fe)) ∨ (-1 ≤ n ∧ r = 1 ∧ w' = (wX A cI cZ cS fk0 fv0 fr0 fd0 (nI n0) fk3 fv3 fr3 fd3 (nI n3) fk1 fv1 fr1 fd1 (nI n1) fk2 fv2 fr2 fd2 (nI n2) ft fu iu (bi dn) (bi rs) (bi rf) n ev fe))) := by
  refine x_metZ (lv := [(0, .ref (A 0)), (1, .int n)]) (by decide +kernel) rfl rfl (Nat.le_of_ble_eq_true rfl) rfl ?_
  intro X h hret
  refine x_iload_n h (pc' := 1) rfl d2_cut_0 1 rfl rfl ?_
  refine x_iconst (v := (-1)) h (pc' := 2) rfl d2_cut_1 (by decide) ?_
  refine x_icmp_ge (tg := 7) h (pc' := 5) rfl d2_cut_2 (by decide) Iff.rfl (fun c2 => ?_) (fun c2 => ?_)
  · skip
    refine x_aload_n h (pc' := 8) rfl d2_cut_7 0 rfl rfl ?_
    refine x_iload_n h (pc' := 9) rfl d2_cut_8 1 rfl rfl ?_
    refine x_put (w' := (wX A cI cZ cS fk0 fv0 fr0 fd0 (nI n0) fk3 fv3 fr3 fd3 (nI n3) fk1 fv1 fr1 fd1 (nI n1) fk2 fv2 fr2 fd2 (nI n2) ft fu iu (bi dn) (bi rs) (bi rf) n ev fe)) (ty := .int) h (pc' := 12) rfl (fun c q => List.mem_cons_of_mem _ (in2 c q)) ok2 nm2 0 8 rfl rfl (by decide) (List.mem_cons_of_mem _ lk2_34) rfl rfl rfl rfl rfl (Nat.le_of_ble_eq_true rfl) rfl d2_cut_9 ?_
    refine x_iconst (v := (nI 1)) h (pc' := 13) rfl d2_cut_12 (by decide) ?_
    exact hret _ _ _ _ rfl d2_cut_13 rfl (Or.inr ⟨c2, rfl, rfl⟩)
  · skip
    refine x_iconst (v := (nI 0)) h (pc' := 6) rfl d2_cut_5 (by decide) ?_
    exact hret _ _ _ _ rfl d2_cut_6 rfl (Or.inl ⟨c2, rfl, rfl⟩)
set_option maxRecDepth 100000 in
set_option maxHeartbeats 4000000 in
theorem k2_get (l : Launch) (D : va_G) (cI cZ cS : ClassId) (A : Nat → Nat) (fk0 fv0 fr0 fd0 : Nat → Int32) (n0 : Nat) (fk3 fv3 fr3 fd3 : Nat → Int32) (n3 : Nat) (fk1 fv1 fr1 fd1 : Nat → Int32) (n1 : Nat) (fk2 fv2 fr2 fd2 : Nat → Int32) (n2 : Nat) (ft fu : Nat → Int32) (iu : Int32) (dn rs rf : Bool) (ct ev fe : Int32) (h0 : n0 ≤ 30) (h3 : n3 ≤ 30) (h1 : n1 ≤ 30) (h2 : n2 ≤ 30) (hK0 : inc fk0 n0) (key : Int32) : CI l y2_get w2_get (rmd 3) D (TS3 cI cZ cS) [.ref (A 0), .int key] (wX A cI cZ cS fk0 fv0 fr0 fd0 (nI n0) fk3 fv3 fr3 fd3 (nI n3) fk1 fv1 fr1 fd1 (nI n1) fk2 fv2 fr2 fd2 (nI n2) ft fu iu (bi dn) (bi rs) (bi rf) ct ev fe) (fun r w' => r = (if dn = true then -1 else (match fnK fk0 n0 key with | none => -4 | some i => fv0 i)) ∧ w' = (wX A cI cZ cS fk0 fv0 fr0 fd0 (nI n0) fk3 fv3 fr3 fd3 (nI n3) fk1 fv1 fr1 fd1 (nI n1) fk2 fv2 fr2 fd2 (nI n2) ft fu iu (bi dn) (bi rs) (bi rf) ct ev fe)) := by
  refine x_metI (lv := [(0, .ref (A 0)), (1, .int key)]) (by decide +kernel) rfl rfl (Nat.le_of_ble_eq_true rfl) rfl ?_
  intro X h hret
  refine x_aload_n h (pc' := 1) rfl d2_get_0 0 rfl rfl ?_
  refine x_get h (pc' := 4) rfl (fun c q => List.mem_cons_of_mem _ (in2 c q)) 0 5 rfl rfl (by decide) (List.mem_cons_of_mem _ lk2_38) rfl rfl d2_get_1 ?_
  refine x_if_eq (tg := 11) h (pc' := 7) rfl d2_get_4 (by decide) (bi_0 _) (fun c4 => ?_) (fun c4 => ?_)
  · skip
    refine x_aload_n h (pc' := 12) rfl d2_get_11 0 rfl rfl ?_
    refine x_get h (pc' := 15) rfl (fun c q => List.mem_cons_of_mem _ (in2 c q)) 0 0 rfl rfl (by decide) (List.mem_cons_of_mem _ lk2_10) rfl rfl d2_get_12 ?_
    refine x_iload_n h (pc' := 16) rfl d2_get_15 1 rfl rfl ?_
    -- valueOf
    refine x_vI h (pc' := 19) rfl [.int key] (k1_valueOf l D cI cZ cS (A 1) (A 2) (A 3) (A 4) (A 5) fk0 fv0 fr0 fd0 n0 (by omega) hK0 key) d2_get_16 1 (gd_V ml2_76 im1_valueOf se1_valueOf ini1 cd1_valueOf) rfl ⟨rfl, rfl⟩ hd1_valueOf ⟨by decide, by decide⟩ ⟨Nat.zero_le _, Nat.zero_le _⟩ 1 rfl rfl rfl [1, 2, 3, 4, 5] rfl rfl rfl (Nat.le_of_ble_eq_true rfl) rfl (fun rr16 ww16 pp16 ee16 => ?_)
    obtain ⟨rfl, rfl⟩ := pp16
    refine x_w (w' := (wX A cI cZ cS fk0 fv0 fr0 fd0 (nI n0) fk3 fv3 fr3 fd3 (nI n3) fk1 fv1 fr1 fd1 (nI n1) fk2 fv2 fr2 fd2 (nI n2) ft fu iu (bi dn) (bi rs) (bi rf) ct ev fe)) rfl ?_
    exact hret _ _ _ _ d2_get_19 rfl ⟨(if_neg (by rw [c4]; decide)).symm, rfl⟩
  · skip
    refine x_iconst (v := (-1)) h (pc' := 8) rfl d2_get_7 (by decide) ?_
    refine x_goto (pc' := 19) h d2_get_8 (by decide) ?_
    exact hret _ _ _ _ d2_get_19 rfl ⟨(if_pos (ne_f c4)).symm, rfl⟩
set_option maxRecDepth 100000 in
set_option maxHeartbeats 4000000 in
theorem k2_next (l : Launch) (D : va_G) (cI cZ cS : ClassId) (A : Nat → Nat) (fk0 fv0 fr0 fd0 : Nat → Int32) (n0 : Nat) (fk3 fv3 fr3 fd3 : Nat → Int32) (n3 : Nat) (fk1 fv1 fr1 fd1 : Nat → Int32) (n1 : Nat) (fk2 fv2 fr2 fd2 : Nat → Int32) (n2 : Nat) (ft fu : Nat → Int32) (iu : Int32) (dn rs rf : Bool) (ct ev fe : Int32) (h0 : n0 ≤ 30) (h3 : n3 ≤ 30) (h1 : n1 ≤ 30) (h2 : n2 ≤ 30) (key : Int32) : CI l y2_next w2_next (rmd 2) D (TS3 cI cZ cS) [.ref (A 0), .int key] (wX A cI cZ cS fk0 fv0 fr0 fd0 (nI n0) fk3 fv3 fr3 fd3 (nI n3) fk1 fv1 fr1 fd1 (nI n1) fk2 fv2 fr2 fd2 (nI n2) ft fu iu (bi dn) (bi rs) (bi rf) ct ev fe) (fun r w' => r = (if dn = true then -1 else (match lbK fk0 n0 key with | none => -4 | some i => fk0 i)) ∧ w' = (wX A cI cZ cS fk0 fv0 fr0 fd0 (nI n0) fk3 fv3 fr3 fd3 (nI n3) fk1 fv1 fr1 fd1 (nI n1) fk2 fv2 fr2 fd2 (nI n2) ft fu iu (bi dn) (bi rs) (bi rf) ct ev fe)) := by
  refine x_metI (lv := [(0, .ref (A 0)), (1, .int key)]) (by decide +kernel) rfl rfl (Nat.le_of_ble_eq_true rfl) rfl ?_
  intro X h hret
  refine x_aload_n h (pc' := 1) rfl d2_next_0 0 rfl rfl ?_
  refine x_get h (pc' := 4) rfl (fun c q => List.mem_cons_of_mem _ (in2 c q)) 0 5 rfl rfl (by decide) (List.mem_cons_of_mem _ lk2_38) rfl rfl d2_next_1 ?_
  refine x_if_eq (tg := 11) h (pc' := 7) rfl d2_next_4 (by decide) (bi_0 _) (fun c4 => ?_) (fun c4 => ?_)
  · skip
    refine x_aload_n h (pc' := 12) rfl d2_next_11 0 rfl rfl ?_
    refine x_get h (pc' := 15) rfl (fun c q => List.mem_cons_of_mem _ (in2 c q)) 0 0 rfl rfl (by decide) (List.mem_cons_of_mem _ lk2_10) rfl rfl d2_next_12 ?_
    refine x_iload_n h (pc' := 16) rfl d2_next_15 1 rfl rfl ?_
    -- keyFrom
    refine x_vI h (pc' := 19) rfl [.int key] (k1_keyFrom l D cI cZ cS (A 1) (A 2) (A 3) (A 4) (A 5) fk0 fv0 fr0 fd0 n0 (by omega) key) d2_next_16 1 (gd_V ml2_79 im1_keyFrom se1_keyFrom ini1 cd1_keyFrom) rfl ⟨rfl, rfl⟩ hd1_keyFrom ⟨by decide, by decide⟩ ⟨Nat.zero_le _, Nat.zero_le _⟩ 1 rfl rfl rfl [1, 2, 3, 4, 5] rfl rfl rfl (Nat.le_of_ble_eq_true rfl) rfl (fun rr16 ww16 pp16 ee16 => ?_)
    obtain ⟨rfl, rfl⟩ := pp16
    refine x_w (w' := (wX A cI cZ cS fk0 fv0 fr0 fd0 (nI n0) fk3 fv3 fr3 fd3 (nI n3) fk1 fv1 fr1 fd1 (nI n1) fk2 fv2 fr2 fd2 (nI n2) ft fu iu (bi dn) (bi rs) (bi rf) ct ev fe)) rfl ?_
    exact hret _ _ _ _ d2_next_19 rfl ⟨(if_neg (by rw [c4]; decide)).symm, rfl⟩
  · skip
    refine x_iconst (v := (-1)) h (pc' := 8) rfl d2_next_7 (by decide) ?_
    refine x_goto (pc' := 19) h d2_next_8 (by decide) ?_
    exact hret _ _ _ _ d2_next_19 rfl ⟨(if_pos (ne_f c4)).symm, rfl⟩
set_option maxRecDepth 100000 in
set_option maxHeartbeats 4000000 in
theorem k2_size (l : Launch) (D : va_G) (cI cZ cS : ClassId) (A : Nat → Nat) (fk0 fv0 fr0 fd0 : Nat → Int32) (n0 : Nat) (fk3 fv3 fr3 fd3 : Nat → Int32) (n3 : Nat) (fk1 fv1 fr1 fd1 : Nat → Int32) (n1 : Nat) (fk2 fv2 fr2 fd2 : Nat → Int32) (n2 : Nat) (ft fu : Nat → Int32) (iu : Int32) (dn rs rf : Bool) (ct ev fe : Int32) (h0 : n0 ≤ 30) (h3 : n3 ≤ 30) (h1 : n1 ≤ 30) (h2 : n2 ≤ 30) : CI l y2_size w2_size (rmd 0) D (TS3 cI cZ cS) [.ref (A 0)] (wX A cI cZ cS fk0 fv0 fr0 fd0 (nI n0) fk3 fv3 fr3 fd3 (nI n3) fk1 fv1 fr1 fd1 (nI n1) fk2 fv2 fr2 fd2 (nI n2) ft fu iu (bi dn) (bi rs) (bi rf) ct ev fe) (fun r w' => r = (if dn = true then -1 else nI n0) ∧ w' = (wX A cI cZ cS fk0 fv0 fr0 fd0 (nI n0) fk3 fv3 fr3 fd3 (nI n3) fk1 fv1 fr1 fd1 (nI n1) fk2 fv2 fr2 fd2 (nI n2) ft fu iu (bi dn) (bi rs) (bi rf) ct ev fe)) := by
  refine x_metI (lv := [(0, .ref (A 0))]) (by decide +kernel) rfl rfl (Nat.le_of_ble_eq_true rfl) rfl ?_
  intro X h hret
  refine x_aload_n h (pc' := 1) rfl d2_size_0 0 rfl rfl ?_
  refine x_get h (pc' := 4) rfl (fun c q => List.mem_cons_of_mem _ (in2 c q)) 0 5 rfl rfl (by decide) (List.mem_cons_of_mem _ lk2_38) rfl rfl d2_size_1 ?_
  refine x_if_eq (tg := 11) h (pc' := 7) rfl d2_size_4 (by decide) (bi_0 _) (fun c4 => ?_) (fun c4 => ?_)
  · skip
    refine x_aload_n h (pc' := 12) rfl d2_size_11 0 rfl rfl ?_
    refine x_get h (pc' := 15) rfl (fun c q => List.mem_cons_of_mem _ (in2 c q)) 0 0 rfl rfl (by decide) (List.mem_cons_of_mem _ lk2_10) rfl rfl d2_size_12 ?_
    refine x_get h (pc' := 18) rfl (fun c q => List.mem_cons_of_mem _ (in1 c q)) 1 4 rfl rfl (by decide) (List.mem_cons_of_mem _ lk2_57) rfl rfl d2_size_15 ?_
    exact hret _ _ _ _ d2_size_18 rfl ⟨(if_neg (by rw [c4]; decide)).symm, rfl⟩
  · skip
    refine x_iconst (v := (-1)) h (pc' := 8) rfl d2_size_7 (by decide) ?_
    refine x_goto (pc' := 18) h d2_size_8 (by decide) ?_
    exact hret _ _ _ _ d2_size_18 rfl ⟨(if_pos (ne_f c4)).symm, rfl⟩
set_option maxRecDepth 100000 in
set_option maxHeartbeats 4000000 in
theorem k2_depth (l : Launch) (D : va_G) (cI cZ cS : ClassId) (A : Nat → Nat) (fk0 fv0 fr0 fd0 : Nat → Int32) (n0 : Nat) (fk3 fv3 fr3 fd3 : Nat → Int32) (n3 : Nat) (fk1 fv1 fr1 fd1 : Nat → Int32) (n1 : Nat) (fk2 fv2 fr2 fd2 : Nat → Int32) (n2 : Nat) (ft fu : Nat → Int32) (iu : Int32) (dn rs rf : Bool) (ct ev fe : Int32) (h0 : n0 ≤ 30) (h3 : n3 ≤ 30) (h1 : n1 ≤ 30) (h2 : n2 ≤ 30) (hK0 : inc fk0 n0) (key : Int32) : CI l y2_depth w2_depth (rmd 3) D (TS3 cI cZ cS) [.ref (A 0), .int key] (wX A cI cZ cS fk0 fv0 fr0 fd0 (nI n0) fk3 fv3 fr3 fd3 (nI n3) fk1 fv1 fr1 fd1 (nI n1) fk2 fv2 fr2 fd2 (nI n2) ft fu iu (bi dn) (bi rs) (bi rf) ct ev fe) (fun r w' => r = (if dn = true then -1 else (match fnK fk0 n0 key with | none => -4 | some x => nI (cntF (fun i => decide (i ≠ x ∧ fsT (hiC fr0) i ≤ x ∧ x ≤ laT (hiC fr0) n0 i)) n0))) ∧ w' = (wX A cI cZ cS fk0 fv0 fr0 fd0 (nI n0) fk3 fv3 fr3 fd3 (nI n3) fk1 fv1 fr1 fd1 (nI n1) fk2 fv2 fr2 fd2 (nI n2) ft fu iu (bi dn) (bi rs) (bi rf) ct ev fe)) := by
  refine x_metI (lv := [(0, .ref (A 0)), (1, .int key)]) (by decide +kernel) rfl rfl (Nat.le_of_ble_eq_true rfl) rfl ?_
  intro X h hret
  refine x_aload_n h (pc' := 1) rfl d2_depth_0 0 rfl rfl ?_
  refine x_get h (pc' := 4) rfl (fun c q => List.mem_cons_of_mem _ (in2 c q)) 0 5 rfl rfl (by decide) (List.mem_cons_of_mem _ lk2_38) rfl rfl d2_depth_1 ?_
  refine x_if_eq (tg := 9) h (pc' := 7) rfl d2_depth_4 (by decide) (bi_0 _) (fun c4 => ?_) (fun c4 => ?_)
  · skip
    refine x_aload_n h (pc' := 10) rfl d2_depth_9 0 rfl rfl ?_
    refine x_get h (pc' := 13) rfl (fun c q => List.mem_cons_of_mem _ (in2 c q)) 0 0 rfl rfl (by decide) (List.mem_cons_of_mem _ lk2_10) rfl rfl d2_depth_10 ?_
    refine x_iload_n h (pc' := 14) rfl d2_depth_13 1 rfl rfl ?_
    -- indexOf
    refine x_vI h (pc' := 17) rfl [.int key] (k1_indexOf l D cI cZ cS (A 1) (A 2) (A 3) (A 4) (A 5) fk0 fv0 fr0 fd0 n0 (by omega) hK0 key) d2_depth_14 1 (gd_V ml2_49 im1_indexOf se1_indexOf ini1 cd1_indexOf) rfl ⟨rfl, rfl⟩ hd1_indexOf ⟨by decide, by decide⟩ ⟨Nat.zero_le _, Nat.zero_le _⟩ 1 rfl rfl rfl [1, 2, 3, 4, 5] rfl rfl rfl (Nat.le_of_ble_eq_true rfl) rfl (fun rr14 ww14 pp14 ee14 => ?_)
    obtain ⟨rfl, rfl⟩ := pp14
    rcases hq : fnK fk0 n0 key with _ | x
    · skip
      refine x_w (w' := (wX A cI cZ cS fk0 fv0 fr0 fd0 (nI n0) fk3 fv3 fr3 fd3 (nI n3) fk1 fv1 fr1 fd1 (nI n1) fk2 fv2 fr2 fd2 (nI n2) ft fu iu (bi dn) (bi rs) (bi rf) ct ev fe)) rfl ?_
      refine x_top (y := (-1)) rfl ?_
      refine x_istore_n (lv' := [(2, .int (-1)), (0, .ref (A 0)), (1, .int key)]) h (pc' := 18) rfl d2_depth_17 rfl (by decide) rfl ?_
      refine x_iload_n h (pc' := 19) rfl d2_depth_18 0 rfl rfl ?_
      refine x_iconst (v := (-1)) h (pc' := 20) rfl d2_depth_19 (by decide) ?_
      refine x_icmp_ne (tg := 28) h (pc' := 23) rfl d2_depth_20 (by decide) Iff.rfl (fun c20 => ?_) (fun c20 => ?_)
      · skip
        exact absurd rfl c20
      · skip
        refine x_bipush (v := (-4)) h (pc' := 25) rfl d2_depth_23 (by decide) ?_
        refine x_goto (pc' := 36) h d2_depth_25 (by decide) ?_
        exact hret _ _ _ _ d2_depth_36 rfl ⟨by rw [if_neg (by rw [c4]; decide), hq], rfl⟩
    · skip
      have hb := fnK_some hq
      refine x_w (w' := (wX A cI cZ cS fk0 fv0 fr0 fd0 (nI n0) fk3 fv3 fr3 fd3 (nI n3) fk1 fv1 fr1 fd1 (nI n1) fk2 fv2 fr2 fd2 (nI n2) ft fu iu (bi dn) (bi rs) (bi rf) ct ev fe)) rfl ?_
      refine x_top (y := (nI x)) rfl ?_
      refine x_istore_n (lv' := [(2, .int (nI x)), (0, .ref (A 0)), (1, .int key)]) h (pc' := 18) rfl d2_depth_17 rfl (by decide) rfl ?_
      refine x_iload_n h (pc' := 19) rfl d2_depth_18 0 rfl rfl ?_
      refine x_iconst (v := (-1)) h (pc' := 20) rfl d2_depth_19 (by decide) ?_
      refine x_icmp_ne (tg := 28) h (pc' := 23) rfl d2_depth_20 (by decide) (n_m1 (by omega)) (fun c20 => ?_) (fun c20 => ?_)
      · skip
        refine x_aload_n h (pc' := 29) rfl d2_depth_28 1 rfl rfl ?_
        refine x_get h (pc' := 32) rfl (fun c q => List.mem_cons_of_mem _ (in2 c q)) 0 0 rfl rfl (by decide) (List.mem_cons_of_mem _ lk2_10) rfl rfl d2_depth_29 ?_
        refine x_iload_n h (pc' := 33) rfl d2_depth_32 0 rfl rfl ?_
        -- depthAt
        refine x_vI h (pc' := 36) rfl [.int (nI x)] (k1_depthAt l D cI cZ cS (A 1) (A 2) (A 3) (A 4) (A 5) fk0 fv0 fr0 fd0 n0 (by omega) x hb.1) d2_depth_33 1 (gd_V ml2_82 im1_depthAt se1_depthAt ini1 cd1_depthAt) rfl ⟨rfl, rfl⟩ hd1_depthAt ⟨by decide, by decide⟩ ⟨Nat.zero_le _, Nat.zero_le _⟩ 1 rfl rfl rfl [1, 2, 3, 4, 5] rfl rfl rfl (Nat.le_of_ble_eq_true rfl) rfl (fun rr33 ww33 pp33 ee33 => ?_)
        obtain ⟨rfl, rfl⟩ := pp33
        refine x_w (w' := (wX A cI cZ cS fk0 fv0 fr0 fd0 (nI n0) fk3 fv3 fr3 fd3 (nI n3) fk1 fv1 fr1 fd1 (nI n1) fk2 fv2 fr2 fd2 (nI n2) ft fu iu (bi dn) (bi rs) (bi rf) ct ev fe)) rfl ?_
        exact hret _ _ _ _ d2_depth_36 rfl ⟨by rw [if_neg (by rw [c4]; decide), hq], rfl⟩
      · skip
        exact c20.elim
  · skip
    refine x_iconst (v := (-1)) h (pc' := 8) rfl d2_depth_7 (by decide) ?_
    exact hret _ _ _ _ d2_depth_8 rfl ⟨(if_pos (ne_f c4)).symm, rfl⟩
set_option maxRecDepth 100000 in
set_option maxHeartbeats 4000000 in
theorem k2_crash (l : Launch) (D : va_G) (cI cZ cS : ClassId) (A : Nat → Nat) (fk0 fv0 fr0 fd0 : Nat → Int32) (n0 : Nat) (fk3 fv3 fr3 fd3 : Nat → Int32) (n3 : Nat) (fk1 fv1 fr1 fd1 : Nat → Int32) (n1 : Nat) (fk2 fv2 fr2 fd2 : Nat → Int32) (n2 : Nat) (ft fu : Nat → Int32) (iu : Int32) (dn rs rf : Bool) (ct ev fe : Int32) (h0 : n0 ≤ 30) (h3 : n3 ≤ 30) (h1 : n1 ≤ 30) (h2 : n2 ≤ 30) : CI l y2_crash w2_crash (rmd 0) D (TS3 cI cZ cS) [.ref (A 0)] (wX A cI cZ cS fk0 fv0 fr0 fd0 (nI n0) fk3 fv3 fr3 fd3 (nI n3) fk1 fv1 fr1 fd1 (nI n1) fk2 fv2 fr2 fd2 (nI n2) ft fu iu (bi dn) (bi rs) (bi rf) ct ev fe) (fun r w' => (dn = true ∧ r = 0 ∧ w' = (wX A cI cZ cS fk0 fv0 fr0 fd0 (nI n0) fk3 fv3 fr3 fd3 (nI n3) fk1 fv1 fr1 fd1 (nI n1) fk2 fv2 fr2 fd2 (nI n2) ft fu iu (bi dn) (bi rs) (bi rf) ct ev fe)) ∨ (dn = false ∧ r = 1 ∧ w' = (wX A cI cZ cS fk0 fv0 fr0 fd0 (nI n0) fk3 fv3 fr3 fd3 (nI n3) fk1 fv1 fr1 fd1 (nI n1) fk2 fv2 fr2 fd2 (nI n2) ft fu iu (nI 1) (bi rs) (bi rf) ct ev fe))) := by
  refine x_metZ (lv := [(0, .ref (A 0))]) (by decide +kernel) rfl rfl (Nat.le_of_ble_eq_true rfl) rfl ?_
  intro X h hret
  refine x_aload_n h (pc' := 1) rfl d2_crash_0 0 rfl rfl ?_
  refine x_get h (pc' := 4) rfl (fun c q => List.mem_cons_of_mem _ (in2 c q)) 0 5 rfl rfl (by decide) (List.mem_cons_of_mem _ lk2_38) rfl rfl d2_crash_1 ?_
  refine x_if_eq (tg := 9) h (pc' := 7) rfl d2_crash_4 (by decide) (bi_0 _) (fun c4 => ?_) (fun c4 => ?_)
  · skip
    refine x_aload_n h (pc' := 10) rfl d2_crash_9 0 rfl rfl ?_
    refine x_iconst (v := (nI 1)) h (pc' := 11) rfl d2_crash_10 (by decide) ?_
    refine x_put (w' := (wX A cI cZ cS fk0 fv0 fr0 fd0 (nI n0) fk3 fv3 fr3 fd3 (nI n3) fk1 fv1 fr1 fd1 (nI n1) fk2 fv2 fr2 fd2 (nI n2) ft fu iu (nI 1) (bi rs) (bi rf) ct ev fe)) (ty := .boolean) h (pc' := 14) rfl (fun c q => List.mem_cons_of_mem _ (in2 c q)) ok2 nm2 0 5 rfl rfl (by decide) (List.mem_cons_of_mem _ lk2_38) rfl rfl rfl rfl rfl (Nat.le_of_ble_eq_true rfl) rfl d2_crash_11 ?_
    refine x_iconst (v := (nI 1)) h (pc' := 15) rfl d2_crash_14 (by decide) ?_
    exact hret _ _ _ _ rfl d2_crash_15 rfl (Or.inr ⟨c4, rfl, rfl⟩)
  · skip
    refine x_iconst (v := (nI 0)) h (pc' := 8) rfl d2_crash_7 (by decide) ?_
    exact hret _ _ _ _ rfl d2_crash_8 rfl (Or.inl ⟨ne_f c4, rfl, rfl⟩)
set_option maxRecDepth 100000 in
set_option maxHeartbeats 4000000 in
theorem k2_events (l : Launch) (D : va_G) (cI cZ cS : ClassId) (A : Nat → Nat) (fk0 fv0 fr0 fd0 : Nat → Int32) (n0 : Nat) (fk3 fv3 fr3 fd3 : Nat → Int32) (n3 : Nat) (fk1 fv1 fr1 fd1 : Nat → Int32) (n1 : Nat) (fk2 fv2 fr2 fd2 : Nat → Int32) (n2 : Nat) (ft fu : Nat → Int32) (iu : Int32) (dn rs rf : Bool) (ct ev fe : Int32) (h0 : n0 ≤ 30) (h3 : n3 ≤ 30) (h1 : n1 ≤ 30) (h2 : n2 ≤ 30) : CI l y2_events w2_events (rmd 0) D (TS3 cI cZ cS) [.ref (A 0)] (wX A cI cZ cS fk0 fv0 fr0 fd0 (nI n0) fk3 fv3 fr3 fd3 (nI n3) fk1 fv1 fr1 fd1 (nI n1) fk2 fv2 fr2 fd2 (nI n2) ft fu iu (bi dn) (bi rs) (bi rf) ct ev fe) (fun r w' => r = ev ∧ w' = (wX A cI cZ cS fk0 fv0 fr0 fd0 (nI n0) fk3 fv3 fr3 fd3 (nI n3) fk1 fv1 fr1 fd1 (nI n1) fk2 fv2 fr2 fd2 (nI n2) ft fu iu (bi dn) (bi rs) (bi rf) ct ev fe)) := by
  refine x_metI (lv := [(0, .ref (A 0))]) (by decide +kernel) rfl rfl (Nat.le_of_ble_eq_true rfl) rfl ?_
  intro X h hret
  refine x_aload_n h (pc' := 1) rfl d2_events_0 0 rfl rfl ?_
  refine x_get h (pc' := 4) rfl (fun c q => List.mem_cons_of_mem _ (in2 c q)) 0 9 rfl rfl (by decide) (List.mem_cons_of_mem _ lk2_103) rfl rfl d2_events_1 ?_
  exact hret _ _ _ _ d2_events_4 rfl ⟨rfl, rfl⟩
set_option maxRecDepth 100000 in
set_option maxHeartbeats 4000000 in
theorem k2_fences (l : Launch) (D : va_G) (cI cZ cS : ClassId) (A : Nat → Nat) (fk0 fv0 fr0 fd0 : Nat → Int32) (n0 : Nat) (fk3 fv3 fr3 fd3 : Nat → Int32) (n3 : Nat) (fk1 fv1 fr1 fd1 : Nat → Int32) (n1 : Nat) (fk2 fv2 fr2 fd2 : Nat → Int32) (n2 : Nat) (ft fu : Nat → Int32) (iu : Int32) (dn rs rf : Bool) (ct ev fe : Int32) (h0 : n0 ≤ 30) (h3 : n3 ≤ 30) (h1 : n1 ≤ 30) (h2 : n2 ≤ 30) : CI l y2_fences w2_fences (rmd 0) D (TS3 cI cZ cS) [.ref (A 0)] (wX A cI cZ cS fk0 fv0 fr0 fd0 (nI n0) fk3 fv3 fr3 fd3 (nI n3) fk1 fv1 fr1 fd1 (nI n1) fk2 fv2 fr2 fd2 (nI n2) ft fu iu (bi dn) (bi rs) (bi rf) ct ev fe) (fun r w' => r = fe ∧ w' = (wX A cI cZ cS fk0 fv0 fr0 fd0 (nI n0) fk3 fv3 fr3 fd3 (nI n3) fk1 fv1 fr1 fd1 (nI n1) fk2 fv2 fr2 fd2 (nI n2) ft fu iu (bi dn) (bi rs) (bi rf) ct ev fe)) := by
  refine x_metI (lv := [(0, .ref (A 0))]) (by decide +kernel) rfl rfl (Nat.le_of_ble_eq_true rfl) rfl ?_
  intro X h hret
  refine x_aload_n h (pc' := 1) rfl d2_fences_0 0 rfl rfl ?_
  refine x_get h (pc' := 4) rfl (fun c q => List.mem_cons_of_mem _ (in2 c q)) 0 10 rfl rfl (by decide) (List.mem_cons_of_mem _ lk2_106) rfl rfl d2_fences_1 ?_
  exact hret _ _ _ _ d2_fences_4 rfl ⟨rfl, rfl⟩
set_option maxRecDepth 100000 in
set_option maxHeartbeats 4000000 in
theorem k2_hold (l : Launch) (D : va_G) (cI cZ cS : ClassId) (A : Nat → Nat) (fk0 fv0 fr0 fd0 : Nat → Int32) (n0 : Nat) (fk3 fv3 fr3 fd3 : Nat → Int32) (n3 : Nat) (fk1 fv1 fr1 fd1 : Nat → Int32) (n1 : Nat) (fk2 fv2 fr2 fd2 : Nat → Int32) (n2 : Nat) (ft fu : Nat → Int32) (iu : Int32) (dn rs rf : Bool) (ct ev fe : Int32) (h0 : n0 ≤ 30) (h3 : n3 ≤ 30) (h1 : n1 ≤ 30) (h2 : n2 ≤ 30) (t1 t2 : Bool) (u1 : ft 0 = bi t1) (u2 : ft 1 = bi t2) (slot : Int32) : CI l y2_hold w2_hold (rmd 2) D (TS3 cI cZ cS) [.ref (A 0), .int slot] (wX A cI cZ cS fk0 fv0 fr0 fd0 (nI n0) fk3 fv3 fr3 fd3 (nI n3) fk1 fv1 fr1 fd1 (nI n1) fk2 fv2 fr2 fd2 (nI n2) ft fu iu (bi dn) (bi rs) (bi rf) ct ev fe) (fun r w' => ((dn = true ∨ ¬ (slot = 0 ∨ slot = 1) ∨ (slot = 0 ∧ t1 = true) ∨ (slot = 1 ∧ t2 = true)) ∧ r = 0 ∧ w' = (wX A cI cZ cS fk0 fv0 fr0 fd0 (nI n0) fk3 fv3 fr3 fd3 (nI n3) fk1 fv1 fr1 fd1 (nI n1) fk2 fv2 fr2 fd2 (nI n2) ft fu iu (bi dn) (bi rs) (bi rf) ct ev fe)) ∨ (dn = false ∧ slot = 0 ∧ t1 = false ∧ r = 1 ∧ w' = (wX A cI cZ cS fk0 fv0 fr0 fd0 (nI n0) fk3 fv3 fr3 fd3 (nI n3) (va_cpy fk0 fk1 0 0 n0) (va_cpy fv0 fv1 0 0 n0) (va_cpy fr0 fr1 0 0 n0) (va_cpy fd0 fd1 0 0 n0) (nI n0) fk2 fv2 fr2 fd2 (nI n2) (upd ft 0 (nI 1)) fu iu (bi dn) (bi rs) (bi rf) ct ev fe)) ∨ (dn = false ∧ slot = 1 ∧ t2 = false ∧ r = 1 ∧ w' = (wX A cI cZ cS fk0 fv0 fr0 fd0 (nI n0) fk3 fv3 fr3 fd3 (nI n3) fk1 fv1 fr1 fd1 (nI n1) (va_cpy fk0 fk2 0 0 n0) (va_cpy fv0 fv2 0 0 n0) (va_cpy fr0 fr2 0 0 n0) (va_cpy fd0 fd2 0 0 n0) (nI n0) (upd ft 1 (nI 1)) fu iu (bi dn) (bi rs) (bi rf) ct ev fe))) := by
  refine x_metZ (lv := [(0, .ref (A 0)), (1, .int slot)]) (by decide +kernel) rfl rfl (Nat.le_of_ble_eq_true rfl) rfl ?_
  intro X h hret
  refine x_aload_n h (pc' := 1) rfl d2_hold_0 0 rfl rfl ?_
  refine x_get h (pc' := 4) rfl (fun c q => List.mem_cons_of_mem _ (in2 c q)) 0 5 rfl rfl (by decide) (List.mem_cons_of_mem _ lk2_38) rfl rfl d2_hold_1 ?_
  refine x_if_ne (tg := 23) h (pc' := 7) rfl d2_hold_4 (by decide) (bi_0 _) (fun c4 => ?_) (fun c4 => ?_)
  · skip
    refine x_iconst (v := (nI 0)) h (pc' := 24) rfl d2_hold_23 (by decide) ?_
    exact hret _ _ _ _ rfl d2_hold_24 rfl (Or.inl ⟨by first | exact Or.inl (ne_f c4) | exact Or.inl c4 | exact Or.inr (Or.inl (of_decide_eq_false c11)) | exact Or.inr (Or.inr (Or.inl ⟨rfl, ne_f c20⟩)) | exact Or.inr (Or.inr (Or.inr ⟨rfl, ne_f c20⟩)), rfl, rfl⟩)
  · skip
    refine x_iload_n h (pc' := 8) rfl d2_hold_7 1 rfl rfl ?_
    -- isSlot
    refine x_sI h (pc' := 11) rfl [.int slot] (k2_isSlot l D cI cZ cS slot) d2_hold_8 1 (gd_S ml2_91 st2_isSlot ini2 cd2_isSlot) rfl ⟨rfl, rfl⟩ hd2_isSlot ⟨by decide, by decide⟩ ⟨Nat.zero_le _, Nat.zero_le _⟩ [] rfl rfl rfl (Nat.le_of_ble_eq_true rfl) rfl (fun rr8 ww8 pp8 ee8 => ?_)
    obtain ⟨rfl, rfl⟩ := pp8
    refine x_w (w' := (wX A cI cZ cS fk0 fv0 fr0 fd0 (nI n0) fk3 fv3 fr3 fd3 (nI n3) fk1 fv1 fr1 fd1 (nI n1) fk2 fv2 fr2 fd2 (nI n2) ft fu iu (bi dn) (bi rs) (bi rf) ct ev fe)) rfl ?_
    refine x_if_eq (tg := 23) h (pc' := 14) rfl d2_hold_11 (by decide) (bi_0 _) (fun c11 => ?_) (fun c11 => ?_)
    · skip
      refine x_iconst (v := (nI 0)) h (pc' := 24) rfl d2_hold_23 (by decide) ?_
      exact hret _ _ _ _ rfl d2_hold_24 rfl (Or.inl ⟨by first | exact Or.inl (ne_f c4) | exact Or.inl c4 | exact Or.inr (Or.inl (of_decide_eq_false c11)) | exact Or.inr (Or.inr (Or.inl ⟨rfl, ne_f c20⟩)) | exact Or.inr (Or.inr (Or.inr ⟨rfl, ne_f c20⟩)), rfl, rfl⟩)
    · skip
      rcases of_decide_eq_true (ne_f c11) with hs | hs
      · skip
        obtain rfl : slot = nI 0 := hs
        refine x_aload_n h (pc' := 15) rfl d2_hold_14 0 rfl rfl ?_
        refine x_get h (pc' := 18) rfl (fun c q => List.mem_cons_of_mem _ (in2 c q)) 0 3 rfl rfl (by decide) (List.mem_cons_of_mem _ lk2_23) rfl rfl d2_hold_15 ?_
        refine x_iload_n h (pc' := 19) rfl d2_hold_18 1 rfl rfl ?_
        refine x_zald (v := (bi t1)) h (pc' := 20) rfl 22 1 rfl rfl (by omega) (by decide) d2_hold_19 u1 ?_
        refine x_if_eq (tg := 25) h (pc' := 23) rfl d2_hold_20 (by decide) (bi_0 _) (fun c20 => ?_) (fun c20 => ?_)
        · skip
          refine x_aload_n h (pc' := 26) rfl d2_hold_25 0 rfl rfl ?_
          refine x_get h (pc' := 29) rfl (fun c q => List.mem_cons_of_mem _ (in2 c q)) 0 2 rfl rfl (by decide) (List.mem_cons_of_mem _ lk2_19) rfl rfl d2_hold_26 ?_
          refine x_iload_n h (pc' := 30) rfl d2_hold_29 1 rfl rfl ?_
          refine x_aald (b := (A 11)) h (pc' := 31) rfl 21 2 rfl rfl (by omega) (by decide) d2_hold_30 rfl ?_
          refine x_aload_n h (pc' := 32) rfl d2_hold_31 0 rfl rfl ?_
          refine x_get h (pc' := 35) rfl (fun c q => List.mem_cons_of_mem _ (in2 c q)) 0 0 rfl rfl (by decide) (List.mem_cons_of_mem _ lk2_10) rfl rfl d2_hold_32 ?_
          -- copyFrom
          refine x_vV h (pc' := 38) rfl [.ref (A 1)] (k1_copyFrom l D cI cZ cS (A 11) (A 12) (A 13) (A 14) (A 15) fk1 fv1 fr1 fd1 n1 (by omega) (A 1) (A 2) (A 3) (A 4) (A 5) fk0 fv0 fr0 fd0 n0 (by omega)) d2_hold_35 1 (gd_V ml2_60 im1_copyFrom se1_copyFrom ini1 cd1_copyFrom) rfl ⟨rfl, rfl⟩ hd1_copyFrom ⟨by decide, by decide⟩ ⟨Nat.zero_le _, Nat.zero_le _⟩ 11 rfl rfl rfl [11, 12, 13, 14, 15, 1, 2, 3, 4, 5] rfl rfl rfl (Nat.le_of_ble_eq_true rfl) rfl (fun ww35 pp35 ee35 => ?_)
          subst pp35
          refine x_w (w' := (wX A cI cZ cS fk0 fv0 fr0 fd0 (nI n0) fk3 fv3 fr3 fd3 (nI n3) (va_cpy fk0 fk1 0 0 n0) (va_cpy fv0 fv1 0 0 n0) (va_cpy fr0 fr1 0 0 n0) (va_cpy fd0 fd1 0 0 n0) (nI n0) fk2 fv2 fr2 fd2 (nI n2) ft fu iu (bi dn) (bi rs) (bi rf) ct ev fe)) rfl ?_
          refine x_aload_n h (pc' := 39) rfl d2_hold_38 0 rfl rfl ?_
          refine x_get h (pc' := 42) rfl (fun c q => List.mem_cons_of_mem _ (in2 c q)) 0 3 rfl rfl (by decide) (List.mem_cons_of_mem _ lk2_23) rfl rfl d2_hold_39 ?_
          refine x_iload_n h (pc' := 43) rfl d2_hold_42 1 rfl rfl ?_
          refine x_iconst (v := (nI 1)) h (pc' := 44) rfl d2_hold_43 (by decide) ?_
          refine x_zast (w' := (wX A cI cZ cS fk0 fv0 fr0 fd0 (nI n0) fk3 fv3 fr3 fd3 (nI n3) (va_cpy fk0 fk1 0 0 n0) (va_cpy fv0 fv1 0 0 n0) (va_cpy fr0 fr1 0 0 n0) (va_cpy fd0 fd1 0 0 n0) (nI n0) fk2 fv2 fr2 fd2 (nI n2) (upd ft 0 (nI 1)) fu iu (bi dn) (bi rs) (bi rf) ct ev fe)) h (pc' := 45) rfl 22 1 rfl rfl (by omega) (by decide) d2_hold_44 rfl rfl ?_
          refine x_iconst (v := (nI 1)) h (pc' := 46) rfl d2_hold_45 (by decide) ?_
          exact hret _ _ _ _ rfl d2_hold_46 rfl (Or.inr (Or.inl ⟨c4, rfl, c20, rfl, rfl⟩))
        · skip
          refine x_iconst (v := (nI 0)) h (pc' := 24) rfl d2_hold_23 (by decide) ?_
          exact hret _ _ _ _ rfl d2_hold_24 rfl (Or.inl ⟨by first | exact Or.inl (ne_f c4) | exact Or.inl c4 | exact Or.inr (Or.inl (of_decide_eq_false c11)) | exact Or.inr (Or.inr (Or.inl ⟨rfl, ne_f c20⟩)) | exact Or.inr (Or.inr (Or.inr ⟨rfl, ne_f c20⟩)), rfl, rfl⟩)
      · skip
        obtain rfl : slot = nI 1 := hs
        refine x_aload_n h (pc' := 15) rfl d2_hold_14 0 rfl rfl ?_
        refine x_get h (pc' := 18) rfl (fun c q => List.mem_cons_of_mem _ (in2 c q)) 0 3 rfl rfl (by decide) (List.mem_cons_of_mem _ lk2_23) rfl rfl d2_hold_15 ?_
        refine x_iload_n h (pc' := 19) rfl d2_hold_18 1 rfl rfl ?_
        refine x_zald (v := (bi t2)) h (pc' := 20) rfl 22 1 rfl rfl (by omega) (by decide) d2_hold_19 u2 ?_
        refine x_if_eq (tg := 25) h (pc' := 23) rfl d2_hold_20 (by decide) (bi_0 _) (fun c20 => ?_) (fun c20 => ?_)
        · skip
          refine x_aload_n h (pc' := 26) rfl d2_hold_25 0 rfl rfl ?_
          refine x_get h (pc' := 29) rfl (fun c q => List.mem_cons_of_mem _ (in2 c q)) 0 2 rfl rfl (by decide) (List.mem_cons_of_mem _ lk2_19) rfl rfl d2_hold_26 ?_
          refine x_iload_n h (pc' := 30) rfl d2_hold_29 1 rfl rfl ?_
          refine x_aald (b := (A 16)) h (pc' := 31) rfl 21 2 rfl rfl (by omega) (by decide) d2_hold_30 rfl ?_
          refine x_aload_n h (pc' := 32) rfl d2_hold_31 0 rfl rfl ?_
          refine x_get h (pc' := 35) rfl (fun c q => List.mem_cons_of_mem _ (in2 c q)) 0 0 rfl rfl (by decide) (List.mem_cons_of_mem _ lk2_10) rfl rfl d2_hold_32 ?_
          -- copyFrom
          refine x_vV h (pc' := 38) rfl [.ref (A 1)] (k1_copyFrom l D cI cZ cS (A 16) (A 17) (A 18) (A 19) (A 20) fk2 fv2 fr2 fd2 n2 (by omega) (A 1) (A 2) (A 3) (A 4) (A 5) fk0 fv0 fr0 fd0 n0 (by omega)) d2_hold_35 1 (gd_V ml2_60 im1_copyFrom se1_copyFrom ini1 cd1_copyFrom) rfl ⟨rfl, rfl⟩ hd1_copyFrom ⟨by decide, by decide⟩ ⟨Nat.zero_le _, Nat.zero_le _⟩ 16 rfl rfl rfl [16, 17, 18, 19, 20, 1, 2, 3, 4, 5] rfl rfl rfl (Nat.le_of_ble_eq_true rfl) rfl (fun ww35 pp35 ee35 => ?_)
          subst pp35
          refine x_w (w' := (wX A cI cZ cS fk0 fv0 fr0 fd0 (nI n0) fk3 fv3 fr3 fd3 (nI n3) fk1 fv1 fr1 fd1 (nI n1) (va_cpy fk0 fk2 0 0 n0) (va_cpy fv0 fv2 0 0 n0) (va_cpy fr0 fr2 0 0 n0) (va_cpy fd0 fd2 0 0 n0) (nI n0) ft fu iu (bi dn) (bi rs) (bi rf) ct ev fe)) rfl ?_
          refine x_aload_n h (pc' := 39) rfl d2_hold_38 0 rfl rfl ?_
          refine x_get h (pc' := 42) rfl (fun c q => List.mem_cons_of_mem _ (in2 c q)) 0 3 rfl rfl (by decide) (List.mem_cons_of_mem _ lk2_23) rfl rfl d2_hold_39 ?_
          refine x_iload_n h (pc' := 43) rfl d2_hold_42 1 rfl rfl ?_
          refine x_iconst (v := (nI 1)) h (pc' := 44) rfl d2_hold_43 (by decide) ?_
          refine x_zast (w' := (wX A cI cZ cS fk0 fv0 fr0 fd0 (nI n0) fk3 fv3 fr3 fd3 (nI n3) fk1 fv1 fr1 fd1 (nI n1) (va_cpy fk0 fk2 0 0 n0) (va_cpy fv0 fv2 0 0 n0) (va_cpy fr0 fr2 0 0 n0) (va_cpy fd0 fd2 0 0 n0) (nI n0) (upd ft 1 (nI 1)) fu iu (bi dn) (bi rs) (bi rf) ct ev fe)) h (pc' := 45) rfl 22 1 rfl rfl (by omega) (by decide) d2_hold_44 rfl rfl ?_
          refine x_iconst (v := (nI 1)) h (pc' := 46) rfl d2_hold_45 (by decide) ?_
          exact hret _ _ _ _ rfl d2_hold_46 rfl (Or.inr (Or.inr ⟨c4, rfl, c20, rfl, rfl⟩))
        · skip
          refine x_iconst (v := (nI 0)) h (pc' := 24) rfl d2_hold_23 (by decide) ?_
          exact hret _ _ _ _ rfl d2_hold_24 rfl (Or.inl ⟨by first | exact Or.inl (ne_f c4) | exact Or.inl c4 | exact Or.inr (Or.inl (of_decide_eq_false c11)) | exact Or.inr (Or.inr (Or.inl ⟨rfl, ne_f c20⟩)) | exact Or.inr (Or.inr (Or.inr ⟨rfl, ne_f c20⟩)), rfl, rfl⟩)
set_option maxRecDepth 100000 in
set_option maxHeartbeats 4000000 in
theorem k2_release (l : Launch) (D : va_G) (cI cZ cS : ClassId) (A : Nat → Nat) (fk0 fv0 fr0 fd0 : Nat → Int32) (n0 : Nat) (fk3 fv3 fr3 fd3 : Nat → Int32) (n3 : Nat) (fk1 fv1 fr1 fd1 : Nat → Int32) (n1 : Nat) (fk2 fv2 fr2 fd2 : Nat → Int32) (n2 : Nat) (ft fu : Nat → Int32) (iu : Int32) (dn rs rf : Bool) (ct ev fe : Int32) (h0 : n0 ≤ 30) (h3 : n3 ≤ 30) (h1 : n1 ≤ 30) (h2 : n2 ≤ 30) (t1 t2 : Bool) (u1 : ft 0 = bi t1) (u2 : ft 1 = bi t2) (slot : Int32) : CI l y2_release w2_release (rmd 2) D (TS3 cI cZ cS) [.ref (A 0), .int slot] (wX A cI cZ cS fk0 fv0 fr0 fd0 (nI n0) fk3 fv3 fr3 fd3 (nI n3) fk1 fv1 fr1 fd1 (nI n1) fk2 fv2 fr2 fd2 (nI n2) ft fu iu (bi dn) (bi rs) (bi rf) ct ev fe) (fun r w' => ((dn = true ∨ ¬ ((slot = 0 ∧ t1 = true) ∨ (slot = 1 ∧ t2 = true))) ∧ r = 0 ∧ w' = (wX A cI cZ cS fk0 fv0 fr0 fd0 (nI n0) fk3 fv3 fr3 fd3 (nI n3) fk1 fv1 fr1 fd1 (nI n1) fk2 fv2 fr2 fd2 (nI n2) ft fu iu (bi dn) (bi rs) (bi rf) ct ev fe)) ∨ (dn = false ∧ slot = 0 ∧ t1 = true ∧ r = 1 ∧ w' = (wX A cI cZ cS fk0 fv0 fr0 fd0 (nI n0) fk3 fv3 fr3 fd3 (nI n3) fk1 fv1 fr1 fd1 (nI n1) fk2 fv2 fr2 fd2 (nI n2) (upd ft 0 (nI 0)) fu iu (bi dn) (bi rs) (bi rf) ct ev fe)) ∨ (dn = false ∧ slot = 1 ∧ t2 = true ∧ r = 1 ∧ w' = (wX A cI cZ cS fk0 fv0 fr0 fd0 (nI n0) fk3 fv3 fr3 fd3 (nI n3) fk1 fv1 fr1 fd1 (nI n1) fk2 fv2 fr2 fd2 (nI n2) (upd ft 1 (nI 0)) fu iu (bi dn) (bi rs) (bi rf) ct ev fe))) := by
  refine x_metZ (lv := [(0, .ref (A 0)), (1, .int slot)]) (by decide +kernel) rfl rfl (Nat.le_of_ble_eq_true rfl) rfl ?_
  intro X h hret
  refine x_aload_n h (pc' := 1) rfl d2_release_0 0 rfl rfl ?_
  refine x_get h (pc' := 4) rfl (fun c q => List.mem_cons_of_mem _ (in2 c q)) 0 5 rfl rfl (by decide) (List.mem_cons_of_mem _ lk2_38) rfl rfl d2_release_1 ?_
  refine x_if_ne (tg := 15) h (pc' := 7) rfl d2_release_4 (by decide) (bi_0 _) (fun c4 => ?_) (fun c4 => ?_)
  · skip
    refine x_iconst (v := (nI 0)) h (pc' := 16) rfl d2_release_15 (by decide) ?_
    exact hret _ _ _ _ rfl d2_release_16 rfl (Or.inl ⟨by first | exact Or.inl (ne_f c4) | exact Or.inl c4 | exact Or.inr (of_decide_eq_false c12), rfl, rfl⟩)
  · skip
    refine x_aload_n h (pc' := 8) rfl d2_release_7 0 rfl rfl ?_
    refine x_iload_n h (pc' := 9) rfl d2_release_8 1 rfl rfl ?_
    -- isHeld
    refine x_vI h (pc' := 12) rfl [.int slot] (k2_isHeld l D cI cZ cS A fk0 fv0 fr0 fd0 n0 fk3 fv3 fr3 fd3 n3 fk1 fv1 fr1 fd1 n1 fk2 fv2 fr2 fd2 n2 ft fu iu dn rs rf ct ev fe h0 h3 h1 h2 t1 t2 u1 u2 slot) d2_release_9 1 (gd_V ml2_94 im2_isHeld se2_isHeld ini2 cd2_isHeld) rfl ⟨rfl, rfl⟩ hd2_isHeld ⟨by decide, by decide⟩ ⟨Nat.zero_le _, Nat.zero_le _⟩ 0 rfl rfl rfl [0, 1, 2, 3, 4, 5, 6, 7, 8, 9, 10, 11, 12, 13, 14, 15, 16, 17, 18, 19, 20, 21, 22, 23, 24] nd25 (map25 rfl) rfl (Nat.le_of_ble_eq_true rfl) rfl (fun rr9 ww9 pp9 ee9 => ?_)
    obtain ⟨rfl, rfl⟩ := pp9
    refine x_w (w' := (wX A cI cZ cS fk0 fv0 fr0 fd0 (nI n0) fk3 fv3 fr3 fd3 (nI n3) fk1 fv1 fr1 fd1 (nI n1) fk2 fv2 fr2 fd2 (nI n2) ft fu iu (bi dn) (bi rs) (bi rf) ct ev fe)) (putB25 _ rfl rfl) ?_
    refine x_if_ne (tg := 17) h (pc' := 15) rfl d2_release_12 (by decide) (bi_0 _) (fun c12 => ?_) (fun c12 => ?_)
    · skip
      rcases of_decide_eq_true (ne_f c12) with hs | hs
      · skip
        obtain ⟨hs, ht⟩ := hs
        obtain rfl : slot = nI 0 := hs
        refine x_aload_n h (pc' := 18) rfl d2_release_17 0 rfl rfl ?_
        refine x_get h (pc' := 21) rfl (fun c q => List.mem_cons_of_mem _ (in2 c q)) 0 3 rfl rfl (by decide) (List.mem_cons_of_mem _ lk2_23) rfl rfl d2_release_18 ?_
        refine x_iload_n h (pc' := 22) rfl d2_release_21 1 rfl rfl ?_
        refine x_iconst (v := (nI 0)) h (pc' := 23) rfl d2_release_22 (by decide) ?_
        refine x_zast (w' := (wX A cI cZ cS fk0 fv0 fr0 fd0 (nI n0) fk3 fv3 fr3 fd3 (nI n3) fk1 fv1 fr1 fd1 (nI n1) fk2 fv2 fr2 fd2 (nI n2) (upd ft 0 (nI 0)) fu iu (bi dn) (bi rs) (bi rf) ct ev fe)) h (pc' := 24) rfl 22 1 rfl rfl (by omega) (by decide) d2_release_23 rfl rfl ?_
        refine x_iconst (v := (nI 1)) h (pc' := 25) rfl d2_release_24 (by decide) ?_
        exact hret _ _ _ _ rfl d2_release_25 rfl (Or.inr (Or.inl ⟨c4, rfl, ht, rfl, rfl⟩))
      · skip
        obtain ⟨hs, ht⟩ := hs
        obtain rfl : slot = nI 1 := hs
        refine x_aload_n h (pc' := 18) rfl d2_release_17 0 rfl rfl ?_
        refine x_get h (pc' := 21) rfl (fun c q => List.mem_cons_of_mem _ (in2 c q)) 0 3 rfl rfl (by decide) (List.mem_cons_of_mem _ lk2_23) rfl rfl d2_release_18 ?_
        refine x_iload_n h (pc' := 22) rfl d2_release_21 1 rfl rfl ?_
        refine x_iconst (v := (nI 0)) h (pc' := 23) rfl d2_release_22 (by decide) ?_
        refine x_zast (w' := (wX A cI cZ cS fk0 fv0 fr0 fd0 (nI n0) fk3 fv3 fr3 fd3 (nI n3) fk1 fv1 fr1 fd1 (nI n1) fk2 fv2 fr2 fd2 (nI n2) (upd ft 1 (nI 0)) fu iu (bi dn) (bi rs) (bi rf) ct ev fe)) h (pc' := 24) rfl 22 1 rfl rfl (by omega) (by decide) d2_release_23 rfl rfl ?_
        refine x_iconst (v := (nI 1)) h (pc' := 25) rfl d2_release_24 (by decide) ?_
        exact hret _ _ _ _ rfl d2_release_25 rfl (Or.inr (Or.inr ⟨c4, rfl, ht, rfl, rfl⟩))
    · skip
      refine x_iconst (v := (nI 0)) h (pc' := 16) rfl d2_release_15 (by decide) ?_
      exact hret _ _ _ _ rfl d2_release_16 rfl (Or.inl ⟨by first | exact Or.inl (ne_f c4) | exact Or.inl c4 | exact Or.inr (of_decide_eq_false c12), rfl, rfl⟩)
set_option maxRecDepth 100000 in
set_option maxHeartbeats 4000000 in
theorem k2_heldGet (l : Launch) (D : va_G) (cI cZ cS : ClassId) (A : Nat → Nat) (fk0 fv0 fr0 fd0 : Nat → Int32) (n0 : Nat) (fk3 fv3 fr3 fd3 : Nat → Int32) (n3 : Nat) (fk1 fv1 fr1 fd1 : Nat → Int32) (n1 : Nat) (fk2 fv2 fr2 fd2 : Nat → Int32) (n2 : Nat) (ft fu : Nat → Int32) (iu : Int32) (dn rs rf : Bool) (ct ev fe : Int32) (h0 : n0 ≤ 30) (h3 : n3 ≤ 30) (h1 : n1 ≤ 30) (h2 : n2 ≤ 30) (t1 t2 : Bool) (u1 : ft 0 = bi t1) (u2 : ft 1 = bi t2) (hK1 : t1 = true → inc fk1 n1) (hK2 : t2 = true → inc fk2 n2) (slot key : Int32) : CI l y2_heldGet w2_heldGet (rmd 3) D (TS3 cI cZ cS) [.ref (A 0), .int slot, .int key] (wX A cI cZ cS fk0 fv0 fr0 fd0 (nI n0) fk3 fv3 fr3 fd3 (nI n3) fk1 fv1 fr1 fd1 (nI n1) fk2 fv2 fr2 fd2 (nI n2) ft fu iu (bi dn) (bi rs) (bi rf) ct ev fe) (fun r w' => ((dn = true ∧ r = -1) ∨ (dn = false ∧ slot = 0 ∧ t1 = true ∧ r = (match fnK fk1 n1 key with | none => -4 | some i => fv1 i)) ∨ (dn = false ∧ slot = 1 ∧ t2 = true ∧ r = (match fnK fk2 n2 key with | none => -4 | some i => fv2 i)) ∨ (dn = false ∧ ¬ ((slot = 0 ∧ t1 = true) ∨ (slot = 1 ∧ t2 = true)) ∧ r = -3)) ∧ w' = (wX A cI cZ cS fk0 fv0 fr0 fd0 (nI n0) fk3 fv3 fr3 fd3 (nI n3) fk1 fv1 fr1 fd1 (nI n1) fk2 fv2 fr2 fd2 (nI n2) ft fu iu (bi dn) (bi rs) (bi rf) ct ev fe)) := by
  refine x_metI (lv := [(0, .ref (A 0)), (1, .int slot), (2, .int key)]) (by decide +kernel) rfl rfl (Nat.le_of_ble_eq_true rfl) rfl ?_
  intro X h hret
  refine x_aload_n h (pc' := 1) rfl d2_heldGet_0 0 rfl rfl ?_
  refine x_get h (pc' := 4) rfl (fun c q => List.mem_cons_of_mem _ (in2 c q)) 0 5 rfl rfl (by decide) (List.mem_cons_of_mem _ lk2_38) rfl rfl d2_heldGet_1 ?_
  refine x_if_eq (tg := 9) h (pc' := 7) rfl d2_heldGet_4 (by decide) (bi_0 _) (fun c4 => ?_) (fun c4 => ?_)
  · skip
    refine x_aload_n h (pc' := 10) rfl d2_heldGet_9 0 rfl rfl ?_
    refine x_iload_n h (pc' := 11) rfl d2_heldGet_10 1 rfl rfl ?_
    -- isHeld
    refine x_vI h (pc' := 14) rfl [.int slot] (k2_isHeld l D cI cZ cS A fk0 fv0 fr0 fd0 n0 fk3 fv3 fr3 fd3 n3 fk1 fv1 fr1 fd1 n1 fk2 fv2 fr2 fd2 n2 ft fu iu dn rs rf ct ev fe h0 h3 h1 h2 t1 t2 u1 u2 slot) d2_heldGet_11 1 (gd_V ml2_94 im2_isHeld se2_isHeld ini2 cd2_isHeld) rfl ⟨rfl, rfl⟩ hd2_isHeld ⟨by decide, by decide⟩ ⟨Nat.zero_le _, Nat.zero_le _⟩ 0 rfl rfl rfl [0, 1, 2, 3, 4, 5, 6, 7, 8, 9, 10, 11, 12, 13, 14, 15, 16, 17, 18, 19, 20, 21, 22, 23, 24] nd25 (map25 rfl) rfl (Nat.le_of_ble_eq_true rfl) rfl (fun rr11 ww11 pp11 ee11 => ?_)
    obtain ⟨rfl, rfl⟩ := pp11
    refine x_w (w' := (wX A cI cZ cS fk0 fv0 fr0 fd0 (nI n0) fk3 fv3 fr3 fd3 (nI n3) fk1 fv1 fr1 fd1 (nI n1) fk2 fv2 fr2 fd2 (nI n2) ft fu iu (bi dn) (bi rs) (bi rf) ct ev fe)) (putB25 _ rfl rfl) ?_
    refine x_if_eq (tg := 30) h (pc' := 17) rfl d2_heldGet_14 (by decide) (bi_0 _) (fun c14 => ?_) (fun c14 => ?_)
    · skip
      refine x_bipush (v := (-3)) h (pc' := 32) rfl d2_heldGet_30 (by decide) ?_
      exact hret _ _ _ _ d2_heldGet_32 rfl ⟨Or.inr (Or.inr (Or.inr ⟨c4, of_decide_eq_false c14, rfl⟩)), rfl⟩
    · skip
      rcases of_decide_eq_true (ne_f c14) with hs | hs
      · skip
        obtain ⟨hs, ht⟩ := hs
        obtain rfl : slot = nI 0 := hs
        refine x_aload_n h (pc' := 18) rfl d2_heldGet_17 0 rfl rfl ?_
        refine x_get h (pc' := 21) rfl (fun c q => List.mem_cons_of_mem _ (in2 c q)) 0 2 rfl rfl (by decide) (List.mem_cons_of_mem _ lk2_19) rfl rfl d2_heldGet_18 ?_
        refine x_iload_n h (pc' := 22) rfl d2_heldGet_21 1 rfl rfl ?_
        refine x_aald (b := (A 11)) h (pc' := 23) rfl 21 2 rfl rfl (by omega) (by decide) d2_heldGet_22 rfl ?_
        refine x_iload_n h (pc' := 24) rfl d2_heldGet_23 2 rfl rfl ?_
        -- valueOf
        refine x_vI h (pc' := 27) rfl [.int key] (k1_valueOf l D cI cZ cS (A 11) (A 12) (A 13) (A 14) (A 15) fk1 fv1 fr1 fd1 n1 (by omega) (hK1 ht) key) d2_heldGet_24 1 (gd_V ml2_76 im1_valueOf se1_valueOf ini1 cd1_valueOf) rfl ⟨rfl, rfl⟩ hd1_valueOf ⟨by decide, by decide⟩ ⟨Nat.zero_le _, Nat.zero_le _⟩ 11 rfl rfl rfl [11, 12, 13, 14, 15] rfl rfl rfl (Nat.le_of_ble_eq_true rfl) rfl (fun rr24 ww24 pp24 ee24 => ?_)
        obtain ⟨rfl, rfl⟩ := pp24
        refine x_w (w' := (wX A cI cZ cS fk0 fv0 fr0 fd0 (nI n0) fk3 fv3 fr3 fd3 (nI n3) fk1 fv1 fr1 fd1 (nI n1) fk2 fv2 fr2 fd2 (nI n2) ft fu iu (bi dn) (bi rs) (bi rf) ct ev fe)) rfl ?_
        refine x_goto (pc' := 32) h d2_heldGet_27 (by decide) ?_
        exact hret _ _ _ _ d2_heldGet_32 rfl ⟨Or.inr (Or.inl ⟨c4, rfl, ht, rfl⟩), rfl⟩
      · skip
        obtain ⟨hs, ht⟩ := hs
        obtain rfl : slot = nI 1 := hs
        refine x_aload_n h (pc' := 18) rfl d2_heldGet_17 0 rfl rfl ?_
        refine x_get h (pc' := 21) rfl (fun c q => List.mem_cons_of_mem _ (in2 c q)) 0 2 rfl rfl (by decide) (List.mem_cons_of_mem _ lk2_19) rfl rfl d2_heldGet_18 ?_
        refine x_iload_n h (pc' := 22) rfl d2_heldGet_21 1 rfl rfl ?_
        refine x_aald (b := (A 16)) h (pc' := 23) rfl 21 2 rfl rfl (by omega) (by decide) d2_heldGet_22 rfl ?_
        refine x_iload_n h (pc' := 24) rfl d2_heldGet_23 2 rfl rfl ?_
        -- valueOf
        refine x_vI h (pc' := 27) rfl [.int key] (k1_valueOf l D cI cZ cS (A 16) (A 17) (A 18) (A 19) (A 20) fk2 fv2 fr2 fd2 n2 (by omega) (hK2 ht) key) d2_heldGet_24 1 (gd_V ml2_76 im1_valueOf se1_valueOf ini1 cd1_valueOf) rfl ⟨rfl, rfl⟩ hd1_valueOf ⟨by decide, by decide⟩ ⟨Nat.zero_le _, Nat.zero_le _⟩ 16 rfl rfl rfl [16, 17, 18, 19, 20] rfl rfl rfl (Nat.le_of_ble_eq_true rfl) rfl (fun rr24 ww24 pp24 ee24 => ?_)
        obtain ⟨rfl, rfl⟩ := pp24
        refine x_w (w' := (wX A cI cZ cS fk0 fv0 fr0 fd0 (nI n0) fk3 fv3 fr3 fd3 (nI n3) fk1 fv1 fr1 fd1 (nI n1) fk2 fv2 fr2 fd2 (nI n2) ft fu iu (bi dn) (bi rs) (bi rf) ct ev fe)) rfl ?_
        refine x_goto (pc' := 32) h d2_heldGet_27 (by decide) ?_
        exact hret _ _ _ _ d2_heldGet_32 rfl ⟨Or.inr (Or.inr (Or.inl ⟨c4, rfl, ht, rfl⟩)), rfl⟩
  · skip
    refine x_iconst (v := (-1)) h (pc' := 8) rfl d2_heldGet_7 (by decide) ?_
    exact hret _ _ _ _ d2_heldGet_8 rfl ⟨Or.inl ⟨ne_f c4, rfl⟩, rfl⟩
set_option maxRecDepth 100000 in
set_option maxHeartbeats 4000000 in
theorem k2_heldNext (l : Launch) (D : va_G) (cI cZ cS : ClassId) (A : Nat → Nat) (fk0 fv0 fr0 fd0 : Nat → Int32) (n0 : Nat) (fk3 fv3 fr3 fd3 : Nat → Int32) (n3 : Nat) (fk1 fv1 fr1 fd1 : Nat → Int32) (n1 : Nat) (fk2 fv2 fr2 fd2 : Nat → Int32) (n2 : Nat) (ft fu : Nat → Int32) (iu : Int32) (dn rs rf : Bool) (ct ev fe : Int32) (h0 : n0 ≤ 30) (h3 : n3 ≤ 30) (h1 : n1 ≤ 30) (h2 : n2 ≤ 30) (t1 t2 : Bool) (u1 : ft 0 = bi t1) (u2 : ft 1 = bi t2) (slot key : Int32) : CI l y2_heldNext w2_heldNext (rmd 2) D (TS3 cI cZ cS) [.ref (A 0), .int slot, .int key] (wX A cI cZ cS fk0 fv0 fr0 fd0 (nI n0) fk3 fv3 fr3 fd3 (nI n3) fk1 fv1 fr1 fd1 (nI n1) fk2 fv2 fr2 fd2 (nI n2) ft fu iu (bi dn) (bi rs) (bi rf) ct ev fe) (fun r w' => ((dn = true ∧ r = -1) ∨ (dn = false ∧ slot = 0 ∧ t1 = true ∧ r = (match lbK fk1 n1 key with | none => -4 | some i => fk1 i)) ∨ (dn = false ∧ slot = 1 ∧ t2 = true ∧ r = (match lbK fk2 n2 key with | none => -4 | some i => fk2 i)) ∨ (dn = false ∧ ¬ ((slot = 0 ∧ t1 = true) ∨ (slot = 1 ∧ t2 = true)) ∧ r = -3)) ∧ w' = (wX A cI cZ cS fk0 fv0 fr0 fd0 (nI n0) fk3 fv3 fr3 fd3 (nI n3) fk1 fv1 fr1 fd1 (nI n1) fk2 fv2 fr2 fd2 (nI n2) ft fu iu (bi dn) (bi rs) (bi rf) ct ev fe)) := by
  refine x_metI (lv := [(0, .ref (A 0)), (1, .int slot), (2, .int key)]) (by decide +kernel) rfl rfl (Nat.le_of_ble_eq_true rfl) rfl ?_
  intro X h hret
  refine x_aload_n h (pc' := 1) rfl d2_heldNext_0 0 rfl rfl ?_
  refine x_get h (pc' := 4) rfl (fun c q => List.mem_cons_of_mem _ (in2 c q)) 0 5 rfl rfl (by decide) (List.mem_cons_of_mem _ lk2_38) rfl rfl d2_heldNext_1 ?_
  refine x_if_eq (tg := 9) h (pc' := 7) rfl d2_heldNext_4 (by decide) (bi_0 _) (fun c4 => ?_) (fun c4 => ?_)
  · skip
    refine x_aload_n h (pc' := 10) rfl d2_heldNext_9 0 rfl rfl ?_
    refine x_iload_n h (pc' := 11) rfl d2_heldNext_10 1 rfl rfl ?_
    -- isHeld
    refine x_vI h (pc' := 14) rfl [.int slot] (k2_isHeld l D cI cZ cS A fk0 fv0 fr0 fd0 n0 fk3 fv3 fr3 fd3 n3 fk1 fv1 fr1 fd1 n1 fk2 fv2 fr2 fd2 n2 ft fu iu dn rs rf ct ev fe h0 h3 h1 h2 t1 t2 u1 u2 slot) d2_heldNext_11 1 (gd_V ml2_94 im2_isHeld se2_isHeld ini2 cd2_isHeld) rfl ⟨rfl, rfl⟩ hd2_isHeld ⟨by decide, by decide⟩ ⟨Nat.zero_le _, Nat.zero_le _⟩ 0 rfl rfl rfl [0, 1, 2, 3, 4, 5, 6, 7, 8, 9, 10, 11, 12, 13, 14, 15, 16, 17, 18, 19, 20, 21, 22, 23, 24] nd25 (map25 rfl) rfl (Nat.le_of_ble_eq_true rfl) rfl (fun rr11 ww11 pp11 ee11 => ?_)
    obtain ⟨rfl, rfl⟩ := pp11
    refine x_w (w' := (wX A cI cZ cS fk0 fv0 fr0 fd0 (nI n0) fk3 fv3 fr3 fd3 (nI n3) fk1 fv1 fr1 fd1 (nI n1) fk2 fv2 fr2 fd2 (nI n2) ft fu iu (bi dn) (bi rs) (bi rf) ct ev fe)) (putB25 _ rfl rfl) ?_
    refine x_if_eq (tg := 30) h (pc' := 17) rfl d2_heldNext_14 (by decide) (bi_0 _) (fun c14 => ?_) (fun c14 => ?_)
    · skip
      refine x_bipush (v := (-3)) h (pc' := 32) rfl d2_heldNext_30 (by decide) ?_
      exact hret _ _ _ _ d2_heldNext_32 rfl ⟨Or.inr (Or.inr (Or.inr ⟨c4, of_decide_eq_false c14, rfl⟩)), rfl⟩
    · skip
      rcases of_decide_eq_true (ne_f c14) with hs | hs
      · skip
        obtain ⟨hs, ht⟩ := hs
        obtain rfl : slot = nI 0 := hs
        refine x_aload_n h (pc' := 18) rfl d2_heldNext_17 0 rfl rfl ?_
        refine x_get h (pc' := 21) rfl (fun c q => List.mem_cons_of_mem _ (in2 c q)) 0 2 rfl rfl (by decide) (List.mem_cons_of_mem _ lk2_19) rfl rfl d2_heldNext_18 ?_
        refine x_iload_n h (pc' := 22) rfl d2_heldNext_21 1 rfl rfl ?_
        refine x_aald (b := (A 11)) h (pc' := 23) rfl 21 2 rfl rfl (by omega) (by decide) d2_heldNext_22 rfl ?_
        refine x_iload_n h (pc' := 24) rfl d2_heldNext_23 2 rfl rfl ?_
        -- keyFrom
        refine x_vI h (pc' := 27) rfl [.int key] (k1_keyFrom l D cI cZ cS (A 11) (A 12) (A 13) (A 14) (A 15) fk1 fv1 fr1 fd1 n1 (by omega) key) d2_heldNext_24 1 (gd_V ml2_79 im1_keyFrom se1_keyFrom ini1 cd1_keyFrom) rfl ⟨rfl, rfl⟩ hd1_keyFrom ⟨by decide, by decide⟩ ⟨Nat.zero_le _, Nat.zero_le _⟩ 11 rfl rfl rfl [11, 12, 13, 14, 15] rfl rfl rfl (Nat.le_of_ble_eq_true rfl) rfl (fun rr24 ww24 pp24 ee24 => ?_)
        obtain ⟨rfl, rfl⟩ := pp24
        refine x_w (w' := (wX A cI cZ cS fk0 fv0 fr0 fd0 (nI n0) fk3 fv3 fr3 fd3 (nI n3) fk1 fv1 fr1 fd1 (nI n1) fk2 fv2 fr2 fd2 (nI n2) ft fu iu (bi dn) (bi rs) (bi rf) ct ev fe)) rfl ?_
        refine x_goto (pc' := 32) h d2_heldNext_27 (by decide) ?_
        exact hret _ _ _ _ d2_heldNext_32 rfl ⟨Or.inr (Or.inl ⟨c4, rfl, ht, rfl⟩), rfl⟩
      · skip
        obtain ⟨hs, ht⟩ := hs
        obtain rfl : slot = nI 1 := hs
        refine x_aload_n h (pc' := 18) rfl d2_heldNext_17 0 rfl rfl ?_
        refine x_get h (pc' := 21) rfl (fun c q => List.mem_cons_of_mem _ (in2 c q)) 0 2 rfl rfl (by decide) (List.mem_cons_of_mem _ lk2_19) rfl rfl d2_heldNext_18 ?_
        refine x_iload_n h (pc' := 22) rfl d2_heldNext_21 1 rfl rfl ?_
        refine x_aald (b := (A 16)) h (pc' := 23) rfl 21 2 rfl rfl (by omega) (by decide) d2_heldNext_22 rfl ?_
        refine x_iload_n h (pc' := 24) rfl d2_heldNext_23 2 rfl rfl ?_
        -- keyFrom
        refine x_vI h (pc' := 27) rfl [.int key] (k1_keyFrom l D cI cZ cS (A 16) (A 17) (A 18) (A 19) (A 20) fk2 fv2 fr2 fd2 n2 (by omega) key) d2_heldNext_24 1 (gd_V ml2_79 im1_keyFrom se1_keyFrom ini1 cd1_keyFrom) rfl ⟨rfl, rfl⟩ hd1_keyFrom ⟨by decide, by decide⟩ ⟨Nat.zero_le _, Nat.zero_le _⟩ 16 rfl rfl rfl [16, 17, 18, 19, 20] rfl rfl rfl (Nat.le_of_ble_eq_true rfl) rfl (fun rr24 ww24 pp24 ee24 => ?_)
        obtain ⟨rfl, rfl⟩ := pp24
        refine x_w (w' := (wX A cI cZ cS fk0 fv0 fr0 fd0 (nI n0) fk3 fv3 fr3 fd3 (nI n3) fk1 fv1 fr1 fd1 (nI n1) fk2 fv2 fr2 fd2 (nI n2) ft fu iu (bi dn) (bi rs) (bi rf) ct ev fe)) rfl ?_
        refine x_goto (pc' := 32) h d2_heldNext_27 (by decide) ?_
        exact hret _ _ _ _ d2_heldNext_32 rfl ⟨Or.inr (Or.inr (Or.inl ⟨c4, rfl, ht, rfl⟩)), rfl⟩
  · skip
    refine x_iconst (v := (-1)) h (pc' := 8) rfl d2_heldNext_7 (by decide) ?_
    exact hret _ _ _ _ d2_heldNext_8 rfl ⟨Or.inl ⟨ne_f c4, rfl⟩, rfl⟩
set_option maxRecDepth 100000 in
set_option maxHeartbeats 4000000 in
theorem k2_restart (l : Launch) (D : va_G) (cI cZ cS : ClassId) (A : Nat → Nat) (fk0 fv0 fr0 fd0 : Nat → Int32) (n0 : Nat) (fk3 fv3 fr3 fd3 : Nat → Int32) (n3 : Nat) (fk1 fv1 fr1 fd1 : Nat → Int32) (n1 : Nat) (fk2 fv2 fr2 fd2 : Nat → Int32) (n2 : Nat) (ft fu : Nat → Int32) (iu : Int32) (dn rs rf : Bool) (ct ev fe : Int32) (h0 : n0 ≤ 30) (h3 : n3 ≤ 30) (h1 : n1 ≤ 30) (h2 : n2 ≤ 30) (ec : Bool) : CI l y2_restart w2_restart (rmd 2) D (TS3 cI cZ cS) [.ref (A 0), .int (bi ec)] (wX A cI cZ cS fk0 fv0 fr0 fd0 (nI n0) fk3 fv3 fr3 fd3 (nI n3) fk1 fv1 fr1 fd1 (nI n1) fk2 fv2 fr2 fd2 (nI n2) ft fu iu (bi dn) (bi rs) (bi rf) ct ev fe) (fun r w' => (dn = false ∧ r = -3 ∧ w' = (wX A cI cZ cS fk0 fv0 fr0 fd0 (nI n0) fk3 fv3 fr3 fd3 (nI n3) fk1 fv1 fr1 fd1 (nI n1) fk2 fv2 fr2 fd2 (nI n2) ft fu iu (bi dn) (bi rs) (bi rf) ct ev fe)) ∨ (dn = true ∧ (rf || (rs && ec)) = true ∧ r = nI n3 ∧ w' = (wX A cI cZ cS (va_cpy fk3 fk0 0 0 n3) (va_cpy fv3 fv0 0 0 n3) (va_cpy fr3 fr0 0 0 n3) (va_cpy fd3 fd0 0 0 n3) (nI n3) fk3 fv3 fr3 fd3 (nI n3) fk1 fv1 fr1 fd1 (nI n1) fk2 fv2 fr2 fd2 (nI n2) (upd (upd ft 0 (nI 0)) (0 + 1) (nI 0)) fu iu (nI 0) (nI 0) (nI 0) ct ev fe)) ∨ (dn = true ∧ (rf || (rs && ec)) = false ∧ r = nI n0 ∧ w' = (wX A cI cZ cS fk0 fv0 fr0 fd0 (nI n0) fk3 fv3 fr3 fd3 (nI n3) fk1 fv1 fr1 fd1 (nI n1) fk2 fv2 fr2 fd2 (nI n2) (upd (upd ft 0 (nI 0)) (0 + 1) (nI 0)) fu iu (nI 0) (nI 0) (nI 0) ct ev fe))) := by
  refine x_metI (lv := [(0, .ref (A 0)), (1, .int (bi ec))]) (by decide +kernel) rfl rfl (Nat.le_of_ble_eq_true rfl) rfl ?_
  intro X h hret
  refine x_aload_n h (pc' := 1) rfl d2_restart_0 0 rfl rfl ?_
  refine x_get h (pc' := 4) rfl (fun c q => List.mem_cons_of_mem _ (in2 c q)) 0 5 rfl rfl (by decide) (List.mem_cons_of_mem _ lk2_38) rfl rfl d2_restart_1 ?_
  refine x_if_ne (tg := 10) h (pc' := 7) rfl d2_restart_4 (by decide) (bi_0 _) (fun c4 => ?_) (fun c4 => ?_)
  · skip
    refine x_aload_n h (pc' := 11) rfl d2_restart_10 0 rfl rfl ?_
    refine x_get h (pc' := 14) rfl (fun c q => List.mem_cons_of_mem _ (in2 c q)) 0 7 rfl rfl (by decide) (List.mem_cons_of_mem _ lk2_97) rfl rfl d2_restart_11 ?_
    refine x_if_ne (tg := 28) h (pc' := 17) rfl d2_restart_14 (by decide) (bi_0 _) (fun c14 => ?_) (fun c14 => ?_)
    · skip
      refine x_aload_n h (pc' := 29) rfl d2_restart_28 0 rfl rfl ?_
      refine x_get h (pc' := 32) rfl (fun c q => List.mem_cons_of_mem _ (in2 c q)) 0 0 rfl rfl (by decide) (List.mem_cons_of_mem _ lk2_10) rfl rfl d2_restart_29 ?_
      refine x_aload_n h (pc' := 33) rfl d2_restart_32 0 rfl rfl ?_
      refine x_get h (pc' := 36) rfl (fun c q => List.mem_cons_of_mem _ (in2 c q)) 0 1 rfl rfl (by decide) (List.mem_cons_of_mem _ lk2_16) rfl rfl d2_restart_33 ?_
      -- copyFrom
      refine x_vV h (pc' := 39) rfl [.ref (A 6)] (k1_copyFrom l D cI cZ cS (A 1) (A 2) (A 3) (A 4) (A 5) fk0 fv0 fr0 fd0 n0 (by omega) (A 6) (A 7) (A 8) (A 9) (A 10) fk3 fv3 fr3 fd3 n3 (by omega)) d2_restart_36 1 (gd_V ml2_60 im1_copyFrom se1_copyFrom ini1 cd1_copyFrom) rfl ⟨rfl, rfl⟩ hd1_copyFrom ⟨by decide, by decide⟩ ⟨Nat.zero_le _, Nat.zero_le _⟩ 1 rfl rfl rfl [1, 2, 3, 4, 5, 6, 7, 8, 9, 10] rfl rfl rfl (Nat.le_of_ble_eq_true rfl) rfl (fun ww36 pp36 ee36 => ?_)
      subst pp36
      refine x_w (w' := (wX A cI cZ cS (va_cpy fk3 fk0 0 0 n3) (va_cpy fv3 fv0 0 0 n3) (va_cpy fr3 fr0 0 0 n3) (va_cpy fd3 fd0 0 0 n3) (nI n3) fk3 fv3 fr3 fd3 (nI n3) fk1 fv1 fr1 fd1 (nI n1) fk2 fv2 fr2 fd2 (nI n2) ft fu iu (bi dn) (bi rs) (bi rf) ct ev fe)) rfl ?_
      refine x_aload_n h (pc' := 40) rfl d2_restart_39 0 rfl rfl ?_
      refine x_iconst (v := (nI 0)) h (pc' := 41) rfl d2_restart_40 (by decide) ?_
      refine x_put (w' := (wX A cI cZ cS (va_cpy fk3 fk0 0 0 n3) (va_cpy fv3 fv0 0 0 n3) (va_cpy fr3 fr0 0 0 n3) (va_cpy fd3 fd0 0 0 n3) (nI n3) fk3 fv3 fr3 fd3 (nI n3) fk1 fv1 fr1 fd1 (nI n1) fk2 fv2 fr2 fd2 (nI n2) ft fu iu (bi dn) (nI 0) (bi rf) ct ev fe)) (ty := .boolean) h (pc' := 44) rfl (fun c q => List.mem_cons_of_mem _ (in2 c q)) ok2 nm2 0 6 rfl rfl (by decide) (List.mem_cons_of_mem _ lk2_100) rfl rfl rfl rfl rfl (Nat.le_of_ble_eq_true rfl) rfl d2_restart_41 ?_
      refine x_aload_n h (pc' := 45) rfl d2_restart_44 0 rfl rfl ?_
      refine x_iconst (v := (nI 0)) h (pc' := 46) rfl d2_restart_45 (by decide) ?_
      refine x_put (w' := (wX A cI cZ cS (va_cpy fk3 fk0 0 0 n3) (va_cpy fv3 fv0 0 0 n3) (va_cpy fr3 fr0 0 0 n3) (va_cpy fd3 fd0 0 0 n3) (nI n3) fk3 fv3 fr3 fd3 (nI n3) fk1 fv1 fr1 fd1 (nI n1) fk2 fv2 fr2 fd2 (nI n2) ft fu iu (bi dn) (nI 0) (nI 0) ct ev fe)) (ty := .boolean) h (pc' := 49) rfl (fun c q => List.mem_cons_of_mem _ (in2 c q)) ok2 nm2 0 7 rfl rfl (by decide) (List.mem_cons_of_mem _ lk2_97) rfl rfl rfl rfl rfl (Nat.le_of_ble_eq_true rfl) rfl d2_restart_46 ?_
      refine x_iconst (v := (nI 0)) h (pc' := 50) rfl d2_restart_49 (by decide) ?_
      refine x_istore_n (lv' := [(2, .int (nI 0)), (0, .ref (A 0)), (1, .int (bi ec))]) h (pc' := 51) rfl d2_restart_50 rfl (by decide) rfl ?_
      refine x_iload_n h (pc' := 52) rfl d2_restart_51 0 rfl rfl ?_
      refine x_iconst (v := (nI 2)) h (pc' := 53) rfl d2_restart_52 (by decide) ?_
      refine x_icmp_ge (tg := 69) h (pc' := 56) rfl d2_restart_53 (by decide) (nI_leI (by omega) (by omega)) (fun c53 => ?_) (fun c53 => ?_)
      · skip
        exact absurd c53 (by omega)
      · skip
        refine x_aload_n h (pc' := 57) rfl d2_restart_56 1 rfl rfl ?_
        refine x_get h (pc' := 60) rfl (fun c q => List.mem_cons_of_mem _ (in2 c q)) 0 3 rfl rfl (by decide) (List.mem_cons_of_mem _ lk2_23) rfl rfl d2_restart_57 ?_
        refine x_iload_n h (pc' := 61) rfl d2_restart_60 0 rfl rfl ?_
        refine x_iconst (v := (nI 0)) h (pc' := 62) rfl d2_restart_61 (by decide) ?_
        refine x_zast (w' := (wX A cI cZ cS (va_cpy fk3 fk0 0 0 n3) (va_cpy fv3 fv0 0 0 n3) (va_cpy fr3 fr0 0 0 n3) (va_cpy fd3 fd0 0 0 n3) (nI n3) fk3 fv3 fr3 fd3 (nI n3) fk1 fv1 fr1 fd1 (nI n1) fk2 fv2 fr2 fd2 (nI n2) (upd ft 0 (nI 0)) fu iu (bi dn) (nI 0) (nI 0) ct ev fe)) h (pc' := 63) rfl 22 1 rfl rfl (by omega) (by decide) d2_restart_62 rfl rfl ?_
        refine x_iinc (lv' := [(2, .int (nI (0 + 1))), (0, .ref (A 0)), (1, .int (bi ec))]) h (pc' := 66) rfl d2_restart_63 0 rfl (n_inc 0) (by decide) rfl ?_
        refine x_goto (pc' := 51) h d2_restart_66 (by decide) ?_
        refine x_iload_n h (pc' := 52) rfl d2_restart_51 0 rfl rfl ?_
        refine x_iconst (v := (nI 2)) h (pc' := 53) rfl d2_restart_52 (by decide) ?_
        refine x_icmp_ge (tg := 69) h (pc' := 56) rfl d2_restart_53 (by decide) (nI_leI (by omega) (by omega)) (fun c53 => ?_) (fun c53 => ?_)
        · skip
          exact absurd c53 (by omega)
        · skip
          refine x_aload_n h (pc' := 57) rfl d2_restart_56 1 rfl rfl ?_
          refine x_get h (pc' := 60) rfl (fun c q => List.mem_cons_of_mem _ (in2 c q)) 0 3 rfl rfl (by decide) (List.mem_cons_of_mem _ lk2_23) rfl rfl d2_restart_57 ?_
          refine x_iload_n h (pc' := 61) rfl d2_restart_60 0 rfl rfl ?_
          refine x_iconst (v := (nI 0)) h (pc' := 62) rfl d2_restart_61 (by decide) ?_
          refine x_zast (w' := (wX A cI cZ cS (va_cpy fk3 fk0 0 0 n3) (va_cpy fv3 fv0 0 0 n3) (va_cpy fr3 fr0 0 0 n3) (va_cpy fd3 fd0 0 0 n3) (nI n3) fk3 fv3 fr3 fd3 (nI n3) fk1 fv1 fr1 fd1 (nI n1) fk2 fv2 fr2 fd2 (nI n2) (upd (upd ft 0 (nI 0)) (0 + 1) (nI 0)) fu iu (bi dn) (nI 0) (nI 0) ct ev fe)) h (pc' := 63) rfl 22 1 rfl rfl (by omega) (by decide) d2_restart_62 rfl rfl ?_
          refine x_iinc (lv' := [(2, .int (nI ((0 + 1) + 1))), (0, .ref (A 0)), (1, .int (bi ec))]) h (pc' := 66) rfl d2_restart_63 0 rfl (n_inc (0 + 1)) (by decide) rfl ?_
          refine x_goto (pc' := 51) h d2_restart_66 (by decide) ?_
          refine x_iload_n h (pc' := 52) rfl d2_restart_51 0 rfl rfl ?_
          refine x_iconst (v := (nI 2)) h (pc' := 53) rfl d2_restart_52 (by decide) ?_
          refine x_icmp_ge (tg := 69) h (pc' := 56) rfl d2_restart_53 (by decide) (nI_leI (by omega) (by omega)) (fun c53 => ?_) (fun c53 => ?_)
          · skip
            refine x_aload_n h (pc' := 70) rfl d2_restart_69 1 rfl rfl ?_
            refine x_iconst (v := (nI 0)) h (pc' := 71) rfl d2_restart_70 (by decide) ?_
            refine x_put (w' := (wX A cI cZ cS (va_cpy fk3 fk0 0 0 n3) (va_cpy fv3 fv0 0 0 n3) (va_cpy fr3 fr0 0 0 n3) (va_cpy fd3 fd0 0 0 n3) (nI n3) fk3 fv3 fr3 fd3 (nI n3) fk1 fv1 fr1 fd1 (nI n1) fk2 fv2 fr2 fd2 (nI n2) (upd (upd ft 0 (nI 0)) (0 + 1) (nI 0)) fu iu (nI 0) (nI 0) (nI 0) ct ev fe)) (ty := .boolean) h (pc' := 74) rfl (fun c q => List.mem_cons_of_mem _ (in2 c q)) ok2 nm2 0 5 rfl rfl (by decide) (List.mem_cons_of_mem _ lk2_38) rfl rfl rfl rfl rfl (Nat.le_of_ble_eq_true rfl) rfl d2_restart_71 ?_
            refine x_aload_n h (pc' := 75) rfl d2_restart_74 1 rfl rfl ?_
            refine x_get h (pc' := 78) rfl (fun c q => List.mem_cons_of_mem _ (in2 c q)) 0 0 rfl rfl (by decide) (List.mem_cons_of_mem _ lk2_10) rfl rfl d2_restart_75 ?_
            refine x_get h (pc' := 81) rfl (fun c q => List.mem_cons_of_mem _ (in1 c q)) 1 4 rfl rfl (by decide) (List.mem_cons_of_mem _ lk2_57) rfl rfl d2_restart_78 ?_
            exact hret _ _ _ _ d2_restart_81 rfl (Or.inr (Or.inl ⟨ne_f c4, by first | (rw [ne_f c14]; rfl) | (rw [ne_f c21, ne_f c25, Bool.and_self, Bool.or_true]), rfl, rfl⟩))
          · skip
            exact absurd c53 (by omega)
    · skip
      refine x_aload_n h (pc' := 18) rfl d2_restart_17 0 rfl rfl ?_
      refine x_get h (pc' := 21) rfl (fun c q => List.mem_cons_of_mem _ (in2 c q)) 0 6 rfl rfl (by decide) (List.mem_cons_of_mem _ lk2_100) rfl rfl d2_restart_18 ?_
      refine x_if_eq (tg := 39) h (pc' := 24) rfl d2_restart_21 (by decide) (bi_0 _) (fun c21 => ?_) (fun c21 => ?_)
      · skip
        refine x_aload_n h (pc' := 40) rfl d2_restart_39 0 rfl rfl ?_
        refine x_iconst (v := (nI 0)) h (pc' := 41) rfl d2_restart_40 (by decide) ?_
        refine x_put (w' := (wX A cI cZ cS fk0 fv0 fr0 fd0 (nI n0) fk3 fv3 fr3 fd3 (nI n3) fk1 fv1 fr1 fd1 (nI n1) fk2 fv2 fr2 fd2 (nI n2) ft fu iu (bi dn) (nI 0) (bi rf) ct ev fe)) (ty := .boolean) h (pc' := 44) rfl (fun c q => List.mem_cons_of_mem _ (in2 c q)) ok2 nm2 0 6 rfl rfl (by decide) (List.mem_cons_of_mem _ lk2_100) rfl rfl rfl rfl rfl (Nat.le_of_ble_eq_true rfl) rfl d2_restart_41 ?_
        refine x_aload_n h (pc' := 45) rfl d2_restart_44 0 rfl rfl ?_
        refine x_iconst (v := (nI 0)) h (pc' := 46) rfl d2_restart_45 (by decide) ?_
        refine x_put (w' := (wX A cI cZ cS fk0 fv0 fr0 fd0 (nI n0) fk3 fv3 fr3 fd3 (nI n3) fk1 fv1 fr1 fd1 (nI n1) fk2 fv2 fr2 fd2 (nI n2) ft fu iu (bi dn) (nI 0) (nI 0) ct ev fe)) (ty := .boolean) h (pc' := 49) rfl (fun c q => List.mem_cons_of_mem _ (in2 c q)) ok2 nm2 0 7 rfl rfl (by decide) (List.mem_cons_of_mem _ lk2_97) rfl rfl rfl rfl rfl (Nat.le_of_ble_eq_true rfl) rfl d2_restart_46 ?_
        refine x_iconst (v := (nI 0)) h (pc' := 50) rfl d2_restart_49 (by decide) ?_
        refine x_istore_n (lv' := [(2, .int (nI 0)), (0, .ref (A 0)), (1, .int (bi ec))]) h (pc' := 51) rfl d2_restart_50 rfl (by decide) rfl ?_
        refine x_iload_n h (pc' := 52) rfl d2_restart_51 0 rfl rfl ?_
        refine x_iconst (v := (nI 2)) h (pc' := 53) rfl d2_restart_52 (by decide) ?_
        refine x_icmp_ge (tg := 69) h (pc' := 56) rfl d2_restart_53 (by decide) (nI_leI (by omega) (by omega)) (fun c53 => ?_) (fun c53 => ?_)
        · skip
          exact absurd c53 (by omega)
        · skip
          refine x_aload_n h (pc' := 57) rfl d2_restart_56 1 rfl rfl ?_
          refine x_get h (pc' := 60) rfl (fun c q => List.mem_cons_of_mem _ (in2 c q)) 0 3 rfl rfl (by decide) (List.mem_cons_of_mem _ lk2_23) rfl rfl d2_restart_57 ?_
          refine x_iload_n h (pc' := 61) rfl d2_restart_60 0 rfl rfl ?_
          refine x_iconst (v := (nI 0)) h (pc' := 62) rfl d2_restart_61 (by decide) ?_
          refine x_zast (w' := (wX A cI cZ cS fk0 fv0 fr0 fd0 (nI n0) fk3 fv3 fr3 fd3 (nI n3) fk1 fv1 fr1 fd1 (nI n1) fk2 fv2 fr2 fd2 (nI n2) (upd ft 0 (nI 0)) fu iu (bi dn) (nI 0) (nI 0) ct ev fe)) h (pc' := 63) rfl 22 1 rfl rfl (by omega) (by decide) d2_restart_62 rfl rfl ?_
          refine x_iinc (lv' := [(2, .int (nI (0 + 1))), (0, .ref (A 0)), (1, .int (bi ec))]) h (pc' := 66) rfl d2_restart_63 0 rfl (n_inc 0) (by decide) rfl ?_
          refine x_goto (pc' := 51) h d2_restart_66 (by decide) ?_
          refine x_iload_n h (pc' := 52) rfl d2_restart_51 0 rfl rfl ?_
          refine x_iconst (v := (nI 2)) h (pc' := 53) rfl d2_restart_52 (by decide) ?_
          refine x_icmp_ge (tg := 69) h (pc' := 56) rfl d2_restart_53 (by decide) (nI_leI (by omega) (by omega)) (fun c53 => ?_) (fun c53 => ?_)
          · skip
            exact absurd c53 (by omega)
          · skip
            refine x_aload_n h (pc' := 57) rfl d2_restart_56 1 rfl rfl ?_
            refine x_get h (pc' := 60) rfl (fun c q => List.mem_cons_of_mem _ (in2 c q)) 0 3 rfl rfl (by decide) (List.mem_cons_of_mem _ lk2_23) rfl rfl d2_restart_57 ?_
            refine x_iload_n h (pc' := 61) rfl d2_restart_60 0 rfl rfl ?_
            refine x_iconst (v := (nI 0)) h (pc' := 62) rfl d2_restart_61 (by decide) ?_
            refine x_zast (w' := (wX A cI cZ cS fk0 fv0 fr0 fd0 (nI n0) fk3 fv3 fr3 fd3 (nI n3) fk1 fv1 fr1 fd1 (nI n1) fk2 fv2 fr2 fd2 (nI n2) (upd (upd ft 0 (nI 0)) (0 + 1) (nI 0)) fu iu (bi dn) (nI 0) (nI 0) ct ev fe)) h (pc' := 63) rfl 22 1 rfl rfl (by omega) (by decide) d2_restart_62 rfl rfl ?_
            refine x_iinc (lv' := [(2, .int (nI ((0 + 1) + 1))), (0, .ref (A 0)), (1, .int (bi ec))]) h (pc' := 66) rfl d2_restart_63 0 rfl (n_inc (0 + 1)) (by decide) rfl ?_
            refine x_goto (pc' := 51) h d2_restart_66 (by decide) ?_
            refine x_iload_n h (pc' := 52) rfl d2_restart_51 0 rfl rfl ?_
            refine x_iconst (v := (nI 2)) h (pc' := 53) rfl d2_restart_52 (by decide) ?_
            refine x_icmp_ge (tg := 69) h (pc' := 56) rfl d2_restart_53 (by decide) (nI_leI (by omega) (by omega)) (fun c53 => ?_) (fun c53 => ?_)
            · skip
              refine x_aload_n h (pc' := 70) rfl d2_restart_69 1 rfl rfl ?_
              refine x_iconst (v := (nI 0)) h (pc' := 71) rfl d2_restart_70 (by decide) ?_
              refine x_put (w' := (wX A cI cZ cS fk0 fv0 fr0 fd0 (nI n0) fk3 fv3 fr3 fd3 (nI n3) fk1 fv1 fr1 fd1 (nI n1) fk2 fv2 fr2 fd2 (nI n2) (upd (upd ft 0 (nI 0)) (0 + 1) (nI 0)) fu iu (nI 0) (nI 0) (nI 0) ct ev fe)) (ty := .boolean) h (pc' := 74) rfl (fun c q => List.mem_cons_of_mem _ (in2 c q)) ok2 nm2 0 5 rfl rfl (by decide) (List.mem_cons_of_mem _ lk2_38) rfl rfl rfl rfl rfl (Nat.le_of_ble_eq_true rfl) rfl d2_restart_71 ?_
              refine x_aload_n h (pc' := 75) rfl d2_restart_74 1 rfl rfl ?_
              refine x_get h (pc' := 78) rfl (fun c q => List.mem_cons_of_mem _ (in2 c q)) 0 0 rfl rfl (by decide) (List.mem_cons_of_mem _ lk2_10) rfl rfl d2_restart_75 ?_
              refine x_get h (pc' := 81) rfl (fun c q => List.mem_cons_of_mem _ (in1 c q)) 1 4 rfl rfl (by decide) (List.mem_cons_of_mem _ lk2_57) rfl rfl d2_restart_78 ?_
              exact hret _ _ _ _ d2_restart_81 rfl (Or.inr (Or.inr ⟨ne_f c4, by first | (rw [c14, c21]; rfl) | (rw [c14, c25, Bool.and_false]; rfl), rfl, rfl⟩))
            · skip
              exact absurd c53 (by omega)
      · skip
        refine x_iload_n h (pc' := 25) rfl d2_restart_24 1 rfl rfl ?_
        refine x_if_eq (tg := 39) h (pc' := 28) rfl d2_restart_25 (by decide) (bi_0 _) (fun c25 => ?_) (fun c25 => ?_)
        · skip
          refine x_aload_n h (pc' := 40) rfl d2_restart_39 0 rfl rfl ?_
          refine x_iconst (v := (nI 0)) h (pc' := 41) rfl d2_restart_40 (by decide) ?_
          refine x_put (w' := (wX A cI cZ cS fk0 fv0 fr0 fd0 (nI n0) fk3 fv3 fr3 fd3 (nI n3) fk1 fv1 fr1 fd1 (nI n1) fk2 fv2 fr2 fd2 (nI n2) ft fu iu (bi dn) (nI 0) (bi rf) ct ev fe)) (ty := .boolean) h (pc' := 44) rfl (fun c q => List.mem_cons_of_mem _ (in2 c q)) ok2 nm2 0 6 rfl rfl (by decide) (List.mem_cons_of_mem _ lk2_100) rfl rfl rfl rfl rfl (Nat.le_of_ble_eq_true rfl) rfl d2_restart_41 ?_
          refine x_aload_n h (pc' := 45) rfl d2_restart_44 0 rfl rfl ?_
          refine x_iconst (v := (nI 0)) h (pc' := 46) rfl d2_restart_45 (by decide) ?_
          refine x_put (w' := (wX A cI cZ cS fk0 fv0 fr0 fd0 (nI n0) fk3 fv3 fr3 fd3 (nI n3) fk1 fv1 fr1 fd1 (nI n1) fk2 fv2 fr2 fd2 (nI n2) ft fu iu (bi dn) (nI 0) (nI 0) ct ev fe)) (ty := .boolean) h (pc' := 49) rfl (fun c q => List.mem_cons_of_mem _ (in2 c q)) ok2 nm2 0 7 rfl rfl (by decide) (List.mem_cons_of_mem _ lk2_97) rfl rfl rfl rfl rfl (Nat.le_of_ble_eq_true rfl) rfl d2_restart_46 ?_
          refine x_iconst (v := (nI 0)) h (pc' := 50) rfl d2_restart_49 (by decide) ?_
          refine x_istore_n (lv' := [(2, .int (nI 0)), (0, .ref (A 0)), (1, .int (bi ec))]) h (pc' := 51) rfl d2_restart_50 rfl (by decide) rfl ?_
          refine x_iload_n h (pc' := 52) rfl d2_restart_51 0 rfl rfl ?_
          refine x_iconst (v := (nI 2)) h (pc' := 53) rfl d2_restart_52 (by decide) ?_
          refine x_icmp_ge (tg := 69) h (pc' := 56) rfl d2_restart_53 (by decide) (nI_leI (by omega) (by omega)) (fun c53 => ?_) (fun c53 => ?_)
          · skip
            exact absurd c53 (by omega)
          · skip
            refine x_aload_n h (pc' := 57) rfl d2_restart_56 1 rfl rfl ?_
            refine x_get h (pc' := 60) rfl (fun c q => List.mem_cons_of_mem _ (in2 c q)) 0 3 rfl rfl (by decide) (List.mem_cons_of_mem _ lk2_23) rfl rfl d2_restart_57 ?_
            refine x_iload_n h (pc' := 61) rfl d2_restart_60 0 rfl rfl ?_
            refine x_iconst (v := (nI 0)) h (pc' := 62) rfl d2_restart_61 (by decide) ?_
            refine x_zast (w' := (wX A cI cZ cS fk0 fv0 fr0 fd0 (nI n0) fk3 fv3 fr3 fd3 (nI n3) fk1 fv1 fr1 fd1 (nI n1) fk2 fv2 fr2 fd2 (nI n2) (upd ft 0 (nI 0)) fu iu (bi dn) (nI 0) (nI 0) ct ev fe)) h (pc' := 63) rfl 22 1 rfl rfl (by omega) (by decide) d2_restart_62 rfl rfl ?_
            refine x_iinc (lv' := [(2, .int (nI (0 + 1))), (0, .ref (A 0)), (1, .int (bi ec))]) h (pc' := 66) rfl d2_restart_63 0 rfl (n_inc 0) (by decide) rfl ?_
            refine x_goto (pc' := 51) h d2_restart_66 (by decide) ?_
            refine x_iload_n h (pc' := 52) rfl d2_restart_51 0 rfl rfl ?_
            refine x_iconst (v := (nI 2)) h (pc' := 53) rfl d2_restart_52 (by decide) ?_
            refine x_icmp_ge (tg := 69) h (pc' := 56) rfl d2_restart_53 (by decide) (nI_leI (by omega) (by omega)) (fun c53 => ?_) (fun c53 => ?_)
            · skip
              exact absurd c53 (by omega)
            · skip
              refine x_aload_n h (pc' := 57) rfl d2_restart_56 1 rfl rfl ?_
              refine x_get h (pc' := 60) rfl (fun c q => List.mem_cons_of_mem _ (in2 c q)) 0 3 rfl rfl (by decide) (List.mem_cons_of_mem _ lk2_23) rfl rfl d2_restart_57 ?_
              refine x_iload_n h (pc' := 61) rfl d2_restart_60 0 rfl rfl ?_
              refine x_iconst (v := (nI 0)) h (pc' := 62) rfl d2_restart_61 (by decide) ?_
              refine x_zast (w' := (wX A cI cZ cS fk0 fv0 fr0 fd0 (nI n0) fk3 fv3 fr3 fd3 (nI n3) fk1 fv1 fr1 fd1 (nI n1) fk2 fv2 fr2 fd2 (nI n2) (upd (upd ft 0 (nI 0)) (0 + 1) (nI 0)) fu iu (bi dn) (nI 0) (nI 0) ct ev fe)) h (pc' := 63) rfl 22 1 rfl rfl (by omega) (by decide) d2_restart_62 rfl rfl ?_
              refine x_iinc (lv' := [(2, .int (nI ((0 + 1) + 1))), (0, .ref (A 0)), (1, .int (bi ec))]) h (pc' := 66) rfl d2_restart_63 0 rfl (n_inc (0 + 1)) (by decide) rfl ?_
              refine x_goto (pc' := 51) h d2_restart_66 (by decide) ?_
              refine x_iload_n h (pc' := 52) rfl d2_restart_51 0 rfl rfl ?_
              refine x_iconst (v := (nI 2)) h (pc' := 53) rfl d2_restart_52 (by decide) ?_
              refine x_icmp_ge (tg := 69) h (pc' := 56) rfl d2_restart_53 (by decide) (nI_leI (by omega) (by omega)) (fun c53 => ?_) (fun c53 => ?_)
              · skip
                refine x_aload_n h (pc' := 70) rfl d2_restart_69 1 rfl rfl ?_
                refine x_iconst (v := (nI 0)) h (pc' := 71) rfl d2_restart_70 (by decide) ?_
                refine x_put (w' := (wX A cI cZ cS fk0 fv0 fr0 fd0 (nI n0) fk3 fv3 fr3 fd3 (nI n3) fk1 fv1 fr1 fd1 (nI n1) fk2 fv2 fr2 fd2 (nI n2) (upd (upd ft 0 (nI 0)) (0 + 1) (nI 0)) fu iu (nI 0) (nI 0) (nI 0) ct ev fe)) (ty := .boolean) h (pc' := 74) rfl (fun c q => List.mem_cons_of_mem _ (in2 c q)) ok2 nm2 0 5 rfl rfl (by decide) (List.mem_cons_of_mem _ lk2_38) rfl rfl rfl rfl rfl (Nat.le_of_ble_eq_true rfl) rfl d2_restart_71 ?_
                refine x_aload_n h (pc' := 75) rfl d2_restart_74 1 rfl rfl ?_
                refine x_get h (pc' := 78) rfl (fun c q => List.mem_cons_of_mem _ (in2 c q)) 0 0 rfl rfl (by decide) (List.mem_cons_of_mem _ lk2_10) rfl rfl d2_restart_75 ?_
                refine x_get h (pc' := 81) rfl (fun c q => List.mem_cons_of_mem _ (in1 c q)) 1 4 rfl rfl (by decide) (List.mem_cons_of_mem _ lk2_57) rfl rfl d2_restart_78 ?_
                exact hret _ _ _ _ d2_restart_81 rfl (Or.inr (Or.inr ⟨ne_f c4, by first | (rw [c14, c21]; rfl) | (rw [c14, c25, Bool.and_false]; rfl), rfl, rfl⟩))
              · skip
                exact absurd c53 (by omega)
        · skip
          refine x_aload_n h (pc' := 29) rfl d2_restart_28 0 rfl rfl ?_
          refine x_get h (pc' := 32) rfl (fun c q => List.mem_cons_of_mem _ (in2 c q)) 0 0 rfl rfl (by decide) (List.mem_cons_of_mem _ lk2_10) rfl rfl d2_restart_29 ?_
          refine x_aload_n h (pc' := 33) rfl d2_restart_32 0 rfl rfl ?_
          refine x_get h (pc' := 36) rfl (fun c q => List.mem_cons_of_mem _ (in2 c q)) 0 1 rfl rfl (by decide) (List.mem_cons_of_mem _ lk2_16) rfl rfl d2_restart_33 ?_
          -- copyFrom
          refine x_vV h (pc' := 39) rfl [.ref (A 6)] (k1_copyFrom l D cI cZ cS (A 1) (A 2) (A 3) (A 4) (A 5) fk0 fv0 fr0 fd0 n0 (by omega) (A 6) (A 7) (A 8) (A 9) (A 10) fk3 fv3 fr3 fd3 n3 (by omega)) d2_restart_36 1 (gd_V ml2_60 im1_copyFrom se1_copyFrom ini1 cd1_copyFrom) rfl ⟨rfl, rfl⟩ hd1_copyFrom ⟨by decide, by decide⟩ ⟨Nat.zero_le _, Nat.zero_le _⟩ 1 rfl rfl rfl [1, 2, 3, 4, 5, 6, 7, 8, 9, 10] rfl rfl rfl (Nat.le_of_ble_eq_true rfl) rfl (fun ww36 pp36 ee36 => ?_)
          subst pp36
          refine x_w (w' := (wX A cI cZ cS (va_cpy fk3 fk0 0 0 n3) (va_cpy fv3 fv0 0 0 n3) (va_cpy fr3 fr0 0 0 n3) (va_cpy fd3 fd0 0 0 n3) (nI n3) fk3 fv3 fr3 fd3 (nI n3) fk1 fv1 fr1 fd1 (nI n1) fk2 fv2 fr2 fd2 (nI n2) ft fu iu (bi dn) (bi rs) (bi rf) ct ev fe)) rfl ?_
          refine x_aload_n h (pc' := 40) rfl d2_restart_39 0 rfl rfl ?_
          refine x_iconst (v := (nI 0)) h (pc' := 41) rfl d2_restart_40 (by decide) ?_
          refine x_put (w' := (wX A cI cZ cS (va_cpy fk3 fk0 0 0 n3) (va_cpy fv3 fv0 0 0 n3) (va_cpy fr3 fr0 0 0 n3) (va_cpy fd3 fd0 0 0 n3) (nI n3) fk3 fv3 fr3 fd3 (nI n3) fk1 fv1 fr1 fd1 (nI n1) fk2 fv2 fr2 fd2 (nI n2) ft fu iu (bi dn) (nI 0) (bi rf) ct ev fe)) (ty := .boolean) h (pc' := 44) rfl (fun c q => List.mem_cons_of_mem _ (in2 c q)) ok2 nm2 0 6 rfl rfl (by decide) (List.mem_cons_of_mem _ lk2_100) rfl rfl rfl rfl rfl (Nat.le_of_ble_eq_true rfl) rfl d2_restart_41 ?_
          refine x_aload_n h (pc' := 45) rfl d2_restart_44 0 rfl rfl ?_
          refine x_iconst (v := (nI 0)) h (pc' := 46) rfl d2_restart_45 (by decide) ?_
          refine x_put (w' := (wX A cI cZ cS (va_cpy fk3 fk0 0 0 n3) (va_cpy fv3 fv0 0 0 n3) (va_cpy fr3 fr0 0 0 n3) (va_cpy fd3 fd0 0 0 n3) (nI n3) fk3 fv3 fr3 fd3 (nI n3) fk1 fv1 fr1 fd1 (nI n1) fk2 fv2 fr2 fd2 (nI n2) ft fu iu (bi dn) (nI 0) (nI 0) ct ev fe)) (ty := .boolean) h (pc' := 49) rfl (fun c q => List.mem_cons_of_mem _ (in2 c q)) ok2 nm2 0 7 rfl rfl (by decide) (List.mem_cons_of_mem _ lk2_97) rfl rfl rfl rfl rfl (Nat.le_of_ble_eq_true rfl) rfl d2_restart_46 ?_
          refine x_iconst (v := (nI 0)) h (pc' := 50) rfl d2_restart_49 (by decide) ?_
          refine x_istore_n (lv' := [(2, .int (nI 0)), (0, .ref (A 0)), (1, .int (bi ec))]) h (pc' := 51) rfl d2_restart_50 rfl (by decide) rfl ?_
          refine x_iload_n h (pc' := 52) rfl d2_restart_51 0 rfl rfl ?_
          refine x_iconst (v := (nI 2)) h (pc' := 53) rfl d2_restart_52 (by decide) ?_
          refine x_icmp_ge (tg := 69) h (pc' := 56) rfl d2_restart_53 (by decide) (nI_leI (by omega) (by omega)) (fun c53 => ?_) (fun c53 => ?_)
          · skip
            exact absurd c53 (by omega)
          · skip
            refine x_aload_n h (pc' := 57) rfl d2_restart_56 1 rfl rfl ?_
            refine x_get h (pc' := 60) rfl (fun c q => List.mem_cons_of_mem _ (in2 c q)) 0 3 rfl rfl (by decide) (List.mem_cons_of_mem _ lk2_23) rfl rfl d2_restart_57 ?_
            refine x_iload_n h (pc' := 61) rfl d2_restart_60 0 rfl rfl ?_
            refine x_iconst (v := (nI 0)) h (pc' := 62) rfl d2_restart_61 (by decide) ?_
            refine x_zast (w' := (wX A cI cZ cS (va_cpy fk3 fk0 0 0 n3) (va_cpy fv3 fv0 0 0 n3) (va_cpy fr3 fr0 0 0 n3) (va_cpy fd3 fd0 0 0 n3) (nI n3) fk3 fv3 fr3 fd3 (nI n3) fk1 fv1 fr1 fd1 (nI n1) fk2 fv2 fr2 fd2 (nI n2) (upd ft 0 (nI 0)) fu iu (bi dn) (nI 0) (nI 0) ct ev fe)) h (pc' := 63) rfl 22 1 rfl rfl (by omega) (by decide) d2_restart_62 rfl rfl ?_
            refine x_iinc (lv' := [(2, .int (nI (0 + 1))), (0, .ref (A 0)), (1, .int (bi ec))]) h (pc' := 66) rfl d2_restart_63 0 rfl (n_inc 0) (by decide) rfl ?_
            refine x_goto (pc' := 51) h d2_restart_66 (by decide) ?_
            refine x_iload_n h (pc' := 52) rfl d2_restart_51 0 rfl rfl ?_
            refine x_iconst (v := (nI 2)) h (pc' := 53) rfl d2_restart_52 (by decide) ?_
            refine x_icmp_ge (tg := 69) h (pc' := 56) rfl d2_restart_53 (by decide) (nI_leI (by omega) (by omega)) (fun c53 => ?_) (fun c53 => ?_)
            · skip
              exact absurd c53 (by omega)
            · skip
              refine x_aload_n h (pc' := 57) rfl d2_restart_56 1 rfl rfl ?_
              refine x_get h (pc' := 60) rfl (fun c q => List.mem_cons_of_mem _ (in2 c q)) 0 3 rfl rfl (by decide) (List.mem_cons_of_mem _ lk2_23) rfl rfl d2_restart_57 ?_
              refine x_iload_n h (pc' := 61) rfl d2_restart_60 0 rfl rfl ?_
              refine x_iconst (v := (nI 0)) h (pc' := 62) rfl d2_restart_61 (by decide) ?_
              refine x_zast (w' := (wX A cI cZ cS (va_cpy fk3 fk0 0 0 n3) (va_cpy fv3 fv0 0 0 n3) (va_cpy fr3 fr0 0 0 n3) (va_cpy fd3 fd0 0 0 n3) (nI n3) fk3 fv3 fr3 fd3 (nI n3) fk1 fv1 fr1 fd1 (nI n1) fk2 fv2 fr2 fd2 (nI n2) (upd (upd ft 0 (nI 0)) (0 + 1) (nI 0)) fu iu (bi dn) (nI 0) (nI 0) ct ev fe)) h (pc' := 63) rfl 22 1 rfl rfl (by omega) (by decide) d2_restart_62 rfl rfl ?_
              refine x_iinc (lv' := [(2, .int (nI ((0 + 1) + 1))), (0, .ref (A 0)), (1, .int (bi ec))]) h (pc' := 66) rfl d2_restart_63 0 rfl (n_inc (0 + 1)) (by decide) rfl ?_
              refine x_goto (pc' := 51) h d2_restart_66 (by decide) ?_
              refine x_iload_n h (pc' := 52) rfl d2_restart_51 0 rfl rfl ?_
              refine x_iconst (v := (nI 2)) h (pc' := 53) rfl d2_restart_52 (by decide) ?_
              refine x_icmp_ge (tg := 69) h (pc' := 56) rfl d2_restart_53 (by decide) (nI_leI (by omega) (by omega)) (fun c53 => ?_) (fun c53 => ?_)
              · skip
                refine x_aload_n h (pc' := 70) rfl d2_restart_69 1 rfl rfl ?_
                refine x_iconst (v := (nI 0)) h (pc' := 71) rfl d2_restart_70 (by decide) ?_
                refine x_put (w' := (wX A cI cZ cS (va_cpy fk3 fk0 0 0 n3) (va_cpy fv3 fv0 0 0 n3) (va_cpy fr3 fr0 0 0 n3) (va_cpy fd3 fd0 0 0 n3) (nI n3) fk3 fv3 fr3 fd3 (nI n3) fk1 fv1 fr1 fd1 (nI n1) fk2 fv2 fr2 fd2 (nI n2) (upd (upd ft 0 (nI 0)) (0 + 1) (nI 0)) fu iu (nI 0) (nI 0) (nI 0) ct ev fe)) (ty := .boolean) h (pc' := 74) rfl (fun c q => List.mem_cons_of_mem _ (in2 c q)) ok2 nm2 0 5 rfl rfl (by decide) (List.mem_cons_of_mem _ lk2_38) rfl rfl rfl rfl rfl (Nat.le_of_ble_eq_true rfl) rfl d2_restart_71 ?_
                refine x_aload_n h (pc' := 75) rfl d2_restart_74 1 rfl rfl ?_
                refine x_get h (pc' := 78) rfl (fun c q => List.mem_cons_of_mem _ (in2 c q)) 0 0 rfl rfl (by decide) (List.mem_cons_of_mem _ lk2_10) rfl rfl d2_restart_75 ?_
                refine x_get h (pc' := 81) rfl (fun c q => List.mem_cons_of_mem _ (in1 c q)) 1 4 rfl rfl (by decide) (List.mem_cons_of_mem _ lk2_57) rfl rfl d2_restart_78 ?_
                exact hret _ _ _ _ d2_restart_81 rfl (Or.inr (Or.inl ⟨ne_f c4, by first | (rw [ne_f c14]; rfl) | (rw [ne_f c21, ne_f c25, Bool.and_self, Bool.or_true]), rfl, rfl⟩))
              · skip
                exact absurd c53 (by omega)
  · skip
    refine x_bipush (v := (-3)) h (pc' := 9) rfl d2_restart_7 (by decide) ?_
    exact hret _ _ _ _ d2_restart_9 rfl (Or.inl ⟨c4, rfl, rfl⟩)
