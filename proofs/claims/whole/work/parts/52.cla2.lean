set_option maxRecDepth 100000 in
set_option maxHeartbeats 4000000 in
theorem k2_findNodesInUse (l : Launch) (D : va_G) (cI cZ cS : ClassId) (A : Nat → Nat) (fk0 fv0 fr0 fd0 : Nat → Int32) (n0 : Nat) (fk3 fv3 fr3 fd3 : Nat → Int32) (n3 : Nat) (fk1 fv1 fr1 fd1 : Nat → Int32) (n1 : Nat) (fk2 fv2 fr2 fd2 : Nat → Int32) (n2 : Nat) (ft fu : Nat → Int32) (iu : Int32) (dn rs rf ct ev fe : Int32) (h0 : n0 ≤ 30) (h3 : n3 ≤ 30) (h1 : n1 ≤ 30) (h2 : n2 ≤ 30) (t1 t2 : Bool) (u1 : ft 0 = bi t1) (u2 : ft 1 = bi t2) (d0 d1 d2 : Nat → Nat) (hd0 : isD fd0 d0 n0) (hd1 : t1 = true → isD fd1 d1 n1) (hd2 : t2 = true → isD fd2 d2 n2) : CV l y2_findNodesInUse w2_findNodesInUse (rmd 2) D (TS3 cI cZ cS) [.ref (A 0)] (wX A cI cZ cS fk0 fv0 fr0 fd0 (nI n0) fk3 fv3 fr3 fd3 (nI n3) fk1 fv1 fr1 fd1 (nI n1) fk2 fv2 fr2 fd2 (nI n2) ft fu iu dn rs rf ct ev fe) (fun w' => ∃ g : Nat → Int32, isU g (U3 d0 d1 d2 n0 n1 n2 t1 t2) ∧ w' = (wX A cI cZ cS fk0 fv0 fr0 fd0 (nI n0) fk3 fv3 fr3 fd3 (nI n3) fk1 fv1 fr1 fd1 (nI n1) fk2 fv2 fr2 fd2 (nI n2) ft g (nI (cntF (U3 d0 d1 d2 n0 n1 n2 t1 t2) 64)) dn rs rf ct ev fe)) := by
  refine x_metV (lv := [(0, .ref (A 0))]) (by decide +kernel) rfl rfl (Nat.le_of_ble_eq_true rfl) rfl ?_
  intro X h hret
  refine x_aload_n h (pc' := 1) rfl d2_findNodesInUse_0 0 rfl rfl ?_
  refine x_get h (pc' := 4) rfl (fun c q => List.mem_cons_of_mem _ (in2 c q)) 0 4 rfl rfl (by decide) (List.mem_cons_of_mem _ lk2_30) rfl rfl d2_findNodesInUse_1 ?_
  -- forgetAll
  refine x_vV h (pc' := 7) rfl [] (k0_forgetAll l D cI cZ cS (A 23) (A 24) fu iu) d2_findNodesInUse_4 0 (gd_V ml2_110 im0_forgetAll se0_forgetAll ini0 cd0_forgetAll) rfl ⟨rfl, rfl⟩ hd0_forgetAll ⟨by decide, by decide⟩ ⟨Nat.zero_le _, Nat.zero_le _⟩ 23 rfl rfl rfl [23, 24] rfl rfl rfl (Nat.le_of_ble_eq_true rfl) rfl (fun ww4 pp4 ee4 => ?_)
  subst pp4
  refine x_w (w' := (wX A cI cZ cS fk0 fv0 fr0 fd0 (nI n0) fk3 fv3 fr3 fd3 (nI n3) fk1 fv1 fr1 fd1 (nI n1) fk2 fv2 fr2 fd2 (nI n2) ft (zerF fu 64) (nI 0) dn rs rf ct ev fe)) rfl ?_
  refine x_aload_n h (pc' := 8) rfl d2_findNodesInUse_7 0 rfl rfl ?_
  refine x_get h (pc' := 11) rfl (fun c q => List.mem_cons_of_mem _ (in2 c q)) 0 4 rfl rfl (by decide) (List.mem_cons_of_mem _ lk2_30) rfl rfl d2_findNodesInUse_8 ?_
  refine x_aload_n h (pc' := 12) rfl d2_findNodesInUse_11 0 rfl rfl ?_
  refine x_get h (pc' := 15) rfl (fun c q => List.mem_cons_of_mem _ (in2 c q)) 0 0 rfl rfl (by decide) (List.mem_cons_of_mem _ lk2_10) rfl rfl d2_findNodesInUse_12 ?_
  refine x_w (w' := (wX A cI cZ cS fk0 fv0 fr0 fd0 (nI n0) fk3 fv3 fr3 fd3 (nI n3) fk1 fv1 fr1 fd1 (nI n1) fk2 fv2 fr2 fd2 (nI n2) ft (zerF fu 64) (nI (cntF (fun _ => false) 64)) dn rs rf ct ev fe)) (by rw [cntF_false]) ?_
  -- useNodesOf
  refine x_vV h (pc' := 18) rfl [.ref (A 1)] (k0_useNodesOf l D cI cZ cS (A 23) (A 24) (zerF fu 64) (fun _ => false) (isU_0 fu) (A 1) (A 2) (A 3) (A 4) (A 5) fk0 fv0 fr0 fd0 n0 (by omega) d0 hd0) d2_findNodesInUse_15 1 (gd_V ml2_113 im0_useNodesOf se0_useNodesOf ini0 cd0_useNodesOf) rfl ⟨rfl, rfl⟩ hd0_useNodesOf ⟨by decide, by decide⟩ ⟨Nat.zero_le _, Nat.zero_le _⟩ 23 rfl rfl rfl [23, 24, 1, 2, 3, 4, 5] rfl rfl rfl (Nat.le_of_ble_eq_true rfl) rfl (fun ww15 pp15 ee15 => ?_)
  obtain ⟨g0, hg0, rfl⟩ := pp15
  refine x_w (w' := (wX A cI cZ cS fk0 fv0 fr0 fd0 (nI n0) fk3 fv3 fr3 fd3 (nI n3) fk1 fv1 fr1 fd1 (nI n1) fk2 fv2 fr2 fd2 (nI n2) ft g0 (nI (cntF (uniD (fun _ => false) d0 n0) 64)) dn rs rf ct ev fe)) rfl ?_
  refine x_iconst (v := (nI 0)) h (pc' := 19) rfl d2_findNodesInUse_18 (by decide) ?_
  refine x_istore_n (lv' := [(1, .int (nI 0)), (0, .ref (A 0))]) h (pc' := 20) rfl d2_findNodesInUse_19 rfl (by decide) rfl ?_
  refine x_iload_n h (pc' := 21) rfl d2_findNodesInUse_20 0 rfl rfl ?_
  refine x_iconst (v := (nI 2)) h (pc' := 22) rfl d2_findNodesInUse_21 (by decide) ?_
  refine x_icmp_ge (tg := 53) h (pc' := 25) rfl d2_findNodesInUse_22 (by decide) (nI_leI (by omega) (by omega)) (fun c22 => ?_) (fun c22 => ?_)
  · skip
    exact absurd c22 (by omega)
  · skip
    refine x_aload_n h (pc' := 26) rfl d2_findNodesInUse_25 1 rfl rfl ?_
    refine x_get h (pc' := 29) rfl (fun c q => List.mem_cons_of_mem _ (in2 c q)) 0 3 rfl rfl (by decide) (List.mem_cons_of_mem _ lk2_23) rfl rfl d2_findNodesInUse_26 ?_
    refine x_iload_n h (pc' := 30) rfl d2_findNodesInUse_29 0 rfl rfl ?_
    refine x_zald (v := (bi t1)) h (pc' := 31) rfl 22 1 rfl rfl (by omega) (by decide) d2_findNodesInUse_30 u1 ?_
    refine x_if_eq (tg := 47) h (pc' := 34) rfl d2_findNodesInUse_31 (by decide) (bi_0 _) (fun c31 => ?_) (fun c31 => ?_)
    · skip
      have kA := c31
      refine x_iinc (lv' := [(1, .int (nI (0 + 1))), (0, .ref (A 0))]) h (pc' := 50) rfl d2_findNodesInUse_47 0 rfl (n_inc 0) (by decide) rfl ?_
      refine x_goto (pc' := 20) h d2_findNodesInUse_50 (by decide) ?_
      refine x_iload_n h (pc' := 21) rfl d2_findNodesInUse_20 0 rfl rfl ?_
      refine x_iconst (v := (nI 2)) h (pc' := 22) rfl d2_findNodesInUse_21 (by decide) ?_
      refine x_icmp_ge (tg := 53) h (pc' := 25) rfl d2_findNodesInUse_22 (by decide) (nI_leI (by omega) (by omega)) (fun c22 => ?_) (fun c22 => ?_)
      · skip
        exact absurd c22 (by omega)
      · skip
        refine x_aload_n h (pc' := 26) rfl d2_findNodesInUse_25 1 rfl rfl ?_
        refine x_get h (pc' := 29) rfl (fun c q => List.mem_cons_of_mem _ (in2 c q)) 0 3 rfl rfl (by decide) (List.mem_cons_of_mem _ lk2_23) rfl rfl d2_findNodesInUse_26 ?_
        refine x_iload_n h (pc' := 30) rfl d2_findNodesInUse_29 0 rfl rfl ?_
        refine x_zald (v := (bi t2)) h (pc' := 31) rfl 22 1 rfl rfl (by omega) (by decide) d2_findNodesInUse_30 u2 ?_
        refine x_if_eq (tg := 47) h (pc' := 34) rfl d2_findNodesInUse_31 (by decide) (bi_0 _) (fun c31 => ?_) (fun c31 => ?_)
        · skip
          have kB := c31
          refine x_iinc (lv' := [(1, .int (nI ((0 + 1) + 1))), (0, .ref (A 0))]) h (pc' := 50) rfl d2_findNodesInUse_47 0 rfl (n_inc (0 + 1)) (by decide) rfl ?_
          refine x_goto (pc' := 20) h d2_findNodesInUse_50 (by decide) ?_
          refine x_iload_n h (pc' := 21) rfl d2_findNodesInUse_20 0 rfl rfl ?_
          refine x_iconst (v := (nI 2)) h (pc' := 22) rfl d2_findNodesInUse_21 (by decide) ?_
          refine x_icmp_ge (tg := 53) h (pc' := 25) rfl d2_findNodesInUse_22 (by decide) (nI_leI (by omega) (by omega)) (fun c22 => ?_) (fun c22 => ?_)
          · skip
            have eU : (U3 d0 d1 d2 n0 n1 n2 t1 t2) = uniD (fun _ => false) d0 n0 := by unfold U3; (first | rw [uniO_t (ne_f kB)] | rw [uniO_f kB]); (first | rw [uniO_t (ne_f kA)] | rw [uniO_f kA])
            exact hret _ _ _ d2_findNodesInUse_53 rfl ⟨_, by rw [eU]; exact hg0, by rw [eU]⟩
          · skip
            exact absurd c22 (by omega)
        · skip
          have kB := c31
          refine x_aload_n h (pc' := 35) rfl d2_findNodesInUse_34 1 rfl rfl ?_
          refine x_get h (pc' := 38) rfl (fun c q => List.mem_cons_of_mem _ (in2 c q)) 0 4 rfl rfl (by decide) (List.mem_cons_of_mem _ lk2_30) rfl rfl d2_findNodesInUse_35 ?_
          refine x_aload_n h (pc' := 39) rfl d2_findNodesInUse_38 1 rfl rfl ?_
          refine x_get h (pc' := 42) rfl (fun c q => List.mem_cons_of_mem _ (in2 c q)) 0 2 rfl rfl (by decide) (List.mem_cons_of_mem _ lk2_19) rfl rfl d2_findNodesInUse_39 ?_
          refine x_iload_n h (pc' := 43) rfl d2_findNodesInUse_42 0 rfl rfl ?_
          refine x_aald (b := (A 16)) h (pc' := 44) rfl 21 2 rfl rfl (by omega) (by decide) d2_findNodesInUse_43 rfl ?_
          -- useNodesOf
          refine x_vV h (pc' := 47) rfl [.ref (A 16)] (k0_useNodesOf l D cI cZ cS (A 23) (A 24) g0 (uniD (fun _ => false) d0 n0) hg0 (A 16) (A 17) (A 18) (A 19) (A 20) fk2 fv2 fr2 fd2 n2 (by omega) d2 (hd2 (ne_f kB))) d2_findNodesInUse_44 1 (gd_V ml2_113 im0_useNodesOf se0_useNodesOf ini0 cd0_useNodesOf) rfl ⟨rfl, rfl⟩ hd0_useNodesOf ⟨by decide, by decide⟩ ⟨Nat.zero_le _, Nat.zero_le _⟩ 23 rfl rfl rfl [23, 24, 16, 17, 18, 19, 20] rfl rfl rfl (Nat.le_of_ble_eq_true rfl) rfl (fun ww44 pp44 ee44 => ?_)
          obtain ⟨g2, hg2, rfl⟩ := pp44
          refine x_w (w' := (wX A cI cZ cS fk0 fv0 fr0 fd0 (nI n0) fk3 fv3 fr3 fd3 (nI n3) fk1 fv1 fr1 fd1 (nI n1) fk2 fv2 fr2 fd2 (nI n2) ft g2 (nI (cntF (uniD (uniD (fun _ => false) d0 n0) d2 n2) 64)) dn rs rf ct ev fe)) rfl ?_
          refine x_iinc (lv' := [(1, .int (nI ((0 + 1) + 1))), (0, .ref (A 0))]) h (pc' := 50) rfl d2_findNodesInUse_47 0 rfl (n_inc (0 + 1)) (by decide) rfl ?_
          refine x_goto (pc' := 20) h d2_findNodesInUse_50 (by decide) ?_
          refine x_iload_n h (pc' := 21) rfl d2_findNodesInUse_20 0 rfl rfl ?_
          refine x_iconst (v := (nI 2)) h (pc' := 22) rfl d2_findNodesInUse_21 (by decide) ?_
          refine x_icmp_ge (tg := 53) h (pc' := 25) rfl d2_findNodesInUse_22 (by decide) (nI_leI (by omega) (by omega)) (fun c22 => ?_) (fun c22 => ?_)
          · skip
            have eU : (U3 d0 d1 d2 n0 n1 n2 t1 t2) = uniD (uniD (fun _ => false) d0 n0) d2 n2 := by unfold U3; (first | rw [uniO_t (ne_f kB)] | rw [uniO_f kB]); (first | rw [uniO_t (ne_f kA)] | rw [uniO_f kA])
            exact hret _ _ _ d2_findNodesInUse_53 rfl ⟨_, by rw [eU]; exact hg2, by rw [eU]⟩
          · skip
            exact absurd c22 (by omega)
    · skip
      have kA := c31
      refine x_aload_n h (pc' := 35) rfl d2_findNodesInUse_34 1 rfl rfl ?_
      refine x_get h (pc' := 38) rfl (fun c q => List.mem_cons_of_mem _ (in2 c q)) 0 4 rfl rfl (by decide) (List.mem_cons_of_mem _ lk2_30) rfl rfl d2_findNodesInUse_35 ?_
      refine x_aload_n h (pc' := 39) rfl d2_findNodesInUse_38 1 rfl rfl ?_
      refine x_get h (pc' := 42) rfl (fun c q => List.mem_cons_of_mem _ (in2 c q)) 0 2 rfl rfl (by decide) (List.mem_cons_of_mem _ lk2_19) rfl rfl d2_findNodesInUse_39 ?_
      refine x_iload_n h (pc' := 43) rfl d2_findNodesInUse_42 0 rfl rfl ?_
      refine x_aald (b := (A 11)) h (pc' := 44) rfl 21 2 rfl rfl (by omega) (by decide) d2_findNodesInUse_43 rfl ?_
      -- useNodesOf
      refine x_vV h (pc' := 47) rfl [.ref (A 11)] (k0_useNodesOf l D cI cZ cS (A 23) (A 24) g0 (uniD (fun _ => false) d0 n0) hg0 (A 11) (A 12) (A 13) (A 14) (A 15) fk1 fv1 fr1 fd1 n1 (by omega) d1 (hd1 (ne_f kA))) d2_findNodesInUse_44 1 (gd_V ml2_113 im0_useNodesOf se0_useNodesOf ini0 cd0_useNodesOf) rfl ⟨rfl, rfl⟩ hd0_useNodesOf ⟨by decide, by decide⟩ ⟨Nat.zero_le _, Nat.zero_le _⟩ 23 rfl rfl rfl [23, 24, 11, 12, 13, 14, 15] rfl rfl rfl (Nat.le_of_ble_eq_true rfl) rfl (fun ww44 pp44 ee44 => ?_)
      obtain ⟨g1, hg1, rfl⟩ := pp44
      refine x_w (w' := (wX A cI cZ cS fk0 fv0 fr0 fd0 (nI n0) fk3 fv3 fr3 fd3 (nI n3) fk1 fv1 fr1 fd1 (nI n1) fk2 fv2 fr2 fd2 (nI n2) ft g1 (nI (cntF (uniD (uniD (fun _ => false) d0 n0) d1 n1) 64)) dn rs rf ct ev fe)) rfl ?_
      refine x_iinc (lv' := [(1, .int (nI (0 + 1))), (0, .ref (A 0))]) h (pc' := 50) rfl d2_findNodesInUse_47 0 rfl (n_inc 0) (by decide) rfl ?_
      refine x_goto (pc' := 20) h d2_findNodesInUse_50 (by decide) ?_
      refine x_iload_n h (pc' := 21) rfl d2_findNodesInUse_20 0 rfl rfl ?_
      refine x_iconst (v := (nI 2)) h (pc' := 22) rfl d2_findNodesInUse_21 (by decide) ?_
      refine x_icmp_ge (tg := 53) h (pc' := 25) rfl d2_findNodesInUse_22 (by decide) (nI_leI (by omega) (by omega)) (fun c22 => ?_) (fun c22 => ?_)
      · skip
        exact absurd c22 (by omega)
      · skip
        refine x_aload_n h (pc' := 26) rfl d2_findNodesInUse_25 1 rfl rfl ?_
        refine x_get h (pc' := 29) rfl (fun c q => List.mem_cons_of_mem _ (in2 c q)) 0 3 rfl rfl (by decide) (List.mem_cons_of_mem _ lk2_23) rfl rfl d2_findNodesInUse_26 ?_
        refine x_iload_n h (pc' := 30) rfl d2_findNodesInUse_29 0 rfl rfl ?_
        refine x_zald (v := (bi t2)) h (pc' := 31) rfl 22 1 rfl rfl (by omega) (by decide) d2_findNodesInUse_30 u2 ?_
        refine x_if_eq (tg := 47) h (pc' := 34) rfl d2_findNodesInUse_31 (by decide) (bi_0 _) (fun c31 => ?_) (fun c31 => ?_)
        · skip
          have kB := c31
          refine x_iinc (lv' := [(1, .int (nI ((0 + 1) + 1))), (0, .ref (A 0))]) h (pc' := 50) rfl d2_findNodesInUse_47 0 rfl (n_inc (0 + 1)) (by decide) rfl ?_
          refine x_goto (pc' := 20) h d2_findNodesInUse_50 (by decide) ?_
          refine x_iload_n h (pc' := 21) rfl d2_findNodesInUse_20 0 rfl rfl ?_
          refine x_iconst (v := (nI 2)) h (pc' := 22) rfl d2_findNodesInUse_21 (by decide) ?_
          refine x_icmp_ge (tg := 53) h (pc' := 25) rfl d2_findNodesInUse_22 (by decide) (nI_leI (by omega) (by omega)) (fun c22 => ?_) (fun c22 => ?_)
          · skip
            have eU : (U3 d0 d1 d2 n0 n1 n2 t1 t2) = uniD (uniD (fun _ => false) d0 n0) d1 n1 := by unfold U3; (first | rw [uniO_t (ne_f kB)] | rw [uniO_f kB]); (first | rw [uniO_t (ne_f kA)] | rw [uniO_f kA])
            exact hret _ _ _ d2_findNodesInUse_53 rfl ⟨_, by rw [eU]; exact hg1, by rw [eU]⟩
          · skip
            exact absurd c22 (by omega)
        · skip
          have kB := c31
          refine x_aload_n h (pc' := 35) rfl d2_findNodesInUse_34 1 rfl rfl ?_
          refine x_get h (pc' := 38) rfl (fun c q => List.mem_cons_of_mem _ (in2 c q)) 0 4 rfl rfl (by decide) (List.mem_cons_of_mem _ lk2_30) rfl rfl d2_findNodesInUse_35 ?_
          refine x_aload_n h (pc' := 39) rfl d2_findNodesInUse_38 1 rfl rfl ?_
          refine x_get h (pc' := 42) rfl (fun c q => List.mem_cons_of_mem _ (in2 c q)) 0 2 rfl rfl (by decide) (List.mem_cons_of_mem _ lk2_19) rfl rfl d2_findNodesInUse_39 ?_
          refine x_iload_n h (pc' := 43) rfl d2_findNodesInUse_42 0 rfl rfl ?_
          refine x_aald (b := (A 16)) h (pc' := 44) rfl 21 2 rfl rfl (by omega) (by decide) d2_findNodesInUse_43 rfl ?_
          -- useNodesOf
          refine x_vV h (pc' := 47) rfl [.ref (A 16)] (k0_useNodesOf l D cI cZ cS (A 23) (A 24) g1 (uniD (uniD (fun _ => false) d0 n0) d1 n1) hg1 (A 16) (A 17) (A 18) (A 19) (A 20) fk2 fv2 fr2 fd2 n2 (by omega) d2 (hd2 (ne_f kB))) d2_findNodesInUse_44 1 (gd_V ml2_113 im0_useNodesOf se0_useNodesOf ini0 cd0_useNodesOf) rfl ⟨rfl, rfl⟩ hd0_useNodesOf ⟨by decide, by decide⟩ ⟨Nat.zero_le _, Nat.zero_le _⟩ 23 rfl rfl rfl [23, 24, 16, 17, 18, 19, 20] rfl rfl rfl (Nat.le_of_ble_eq_true rfl) rfl (fun ww44 pp44 ee44 => ?_)
          obtain ⟨g2, hg2, rfl⟩ := pp44
          refine x_w (w' := (wX A cI cZ cS fk0 fv0 fr0 fd0 (nI n0) fk3 fv3 fr3 fd3 (nI n3) fk1 fv1 fr1 fd1 (nI n1) fk2 fv2 fr2 fd2 (nI n2) ft g2 (nI (cntF (uniD (uniD (uniD (fun _ => false) d0 n0) d1 n1) d2 n2) 64)) dn rs rf ct ev fe)) rfl ?_
          refine x_iinc (lv' := [(1, .int (nI ((0 + 1) + 1))), (0, .ref (A 0))]) h (pc' := 50) rfl d2_findNodesInUse_47 0 rfl (n_inc (0 + 1)) (by decide) rfl ?_
          refine x_goto (pc' := 20) h d2_findNodesInUse_50 (by decide) ?_
          refine x_iload_n h (pc' := 21) rfl d2_findNodesInUse_20 0 rfl rfl ?_
          refine x_iconst (v := (nI 2)) h (pc' := 22) rfl d2_findNodesInUse_21 (by decide) ?_
          refine x_icmp_ge (tg := 53) h (pc' := 25) rfl d2_findNodesInUse_22 (by decide) (nI_leI (by omega) (by omega)) (fun c22 => ?_) (fun c22 => ?_)
          · skip
            have eU : (U3 d0 d1 d2 n0 n1 n2 t1 t2) = uniD (uniD (uniD (fun _ => false) d0 n0) d1 n1) d2 n2 := by unfold U3; (first | rw [uniO_t (ne_f kB)] | rw [uniO_f kB]); (first | rw [uniO_t (ne_f kA)] | rw [uniO_f kA])
            exact hret _ _ _ d2_findNodesInUse_53 rfl ⟨_, by rw [eU]; exact hg2, by rw [eU]⟩
          · skip
            exact absurd c22 (by omega)
set_option maxRecDepth 100000 in
set_option maxHeartbeats 4000000 in
theorem k2_nodes (l : Launch) (D : va_G) (cI cZ cS : ClassId) (A : Nat → Nat) (fk0 fv0 fr0 fd0 : Nat → Int32) (n0 : Nat) (fk3 fv3 fr3 fd3 : Nat → Int32) (n3 : Nat) (fk1 fv1 fr1 fd1 : Nat → Int32) (n1 : Nat) (fk2 fv2 fr2 fd2 : Nat → Int32) (n2 : Nat) (ft fu : Nat → Int32) (iu : Int32) (dn rs rf : Bool) (ct ev fe : Int32) (h0 : n0 ≤ 30) (h3 : n3 ≤ 30) (h1 : n1 ≤ 30) (h2 : n2 ≤ 30) (t1 t2 : Bool) (u1 : ft 0 = bi t1) (u2 : ft 1 = bi t2) (d0 d1 d2 : Nat → Nat) (hd0 : isD fd0 d0 n0) (hd1 : t1 = true → isD fd1 d1 n1) (hd2 : t2 = true → isD fd2 d2 n2) : CI l y2_nodes w2_nodes (rmd 3) D (TS3 cI cZ cS) [.ref (A 0)] (wX A cI cZ cS fk0 fv0 fr0 fd0 (nI n0) fk3 fv3 fr3 fd3 (nI n3) fk1 fv1 fr1 fd1 (nI n1) fk2 fv2 fr2 fd2 (nI n2) ft fu iu (bi dn) (bi rs) (bi rf) ct ev fe) (fun r w' => (dn = true ∧ r = -1 ∧ w' = (wX A cI cZ cS fk0 fv0 fr0 fd0 (nI n0) fk3 fv3 fr3 fd3 (nI n3) fk1 fv1 fr1 fd1 (nI n1) fk2 fv2 fr2 fd2 (nI n2) ft fu iu (bi dn) (bi rs) (bi rf) ct ev fe)) ∨ (dn = false ∧ ∃ g : Nat → Int32, r = nI (cntF (U3 d0 d1 d2 n0 n1 n2 t1 t2) 64) ∧ w' = (wX A cI cZ cS fk0 fv0 fr0 fd0 (nI n0) fk3 fv3 fr3 fd3 (nI n3) fk1 fv1 fr1 fd1 (nI n1) fk2 fv2 fr2 fd2 (nI n2) ft g (nI (cntF (U3 d0 d1 d2 n0 n1 n2 t1 t2) 64)) (bi dn) (bi rs) (bi rf) ct ev fe))) := by
  refine x_metI (lv := [(0, .ref (A 0))]) (by decide +kernel) rfl rfl (Nat.le_of_ble_eq_true rfl) rfl ?_
  intro X h hret
  refine x_aload_n h (pc' := 1) rfl d2_nodes_0 0 rfl rfl ?_
  refine x_get h (pc' := 4) rfl (fun c q => List.mem_cons_of_mem _ (in2 c q)) 0 5 rfl rfl (by decide) (List.mem_cons_of_mem _ lk2_38) rfl rfl d2_nodes_1 ?_
  refine x_if_eq (tg := 9) h (pc' := 7) rfl d2_nodes_4 (by decide) (bi_0 _) (fun c4 => ?_) (fun c4 => ?_)
  · skip
    refine x_aload_n h (pc' := 10) rfl d2_nodes_9 0 rfl rfl ?_
    -- findNodesInUse
    refine x_vV h (pc' := 13) rfl [] (k2_findNodesInUse l D cI cZ cS A fk0 fv0 fr0 fd0 n0 fk3 fv3 fr3 fd3 n3 fk1 fv1 fr1 fd1 n1 fk2 fv2 fr2 fd2 n2 ft fu iu (bi dn) (bi rs) (bi rf) ct ev fe h0 (by omega) h1 h2 t1 t2 u1 u2 d0 d1 d2 hd0 hd1 hd2) d2_nodes_10 0 (gd_V ml2_85 im2_findNodesInUse se2_findNodesInUse ini2 cd2_findNodesInUse) rfl ⟨rfl, rfl⟩ hd2_findNodesInUse ⟨by decide, by decide⟩ ⟨Nat.zero_le _, Nat.zero_le _⟩ 0 rfl rfl rfl [0, 1, 2, 3, 4, 5, 6, 7, 8, 9, 10, 11, 12, 13, 14, 15, 16, 17, 18, 19, 20, 21, 22, 23, 24] nd25 (map25 rfl) rfl (Nat.le_of_ble_eq_true rfl) rfl (fun ww10 pp10 ee10 => ?_)
    obtain ⟨g, hg, rfl⟩ := pp10
    refine x_w (w' := (wX A cI cZ cS fk0 fv0 fr0 fd0 (nI n0) fk3 fv3 fr3 fd3 (nI n3) fk1 fv1 fr1 fd1 (nI n1) fk2 fv2 fr2 fd2 (nI n2) ft g (nI (cntF (U3 d0 d1 d2 n0 n1 n2 t1 t2) 64)) (bi dn) (bi rs) (bi rf) ct ev fe)) (putB25 _ rfl rfl) ?_
    refine x_aload_n h (pc' := 14) rfl d2_nodes_13 0 rfl rfl ?_
    refine x_get h (pc' := 17) rfl (fun c q => List.mem_cons_of_mem _ (in2 c q)) 0 4 rfl rfl (by decide) (List.mem_cons_of_mem _ lk2_30) rfl rfl d2_nodes_14 ?_
    refine x_get h (pc' := 20) rfl (fun c q => List.mem_cons_of_mem _ (in0 c q)) 23 1 rfl rfl (by decide) (List.mem_cons_of_mem _ lk2_88) rfl rfl d2_nodes_17 ?_
    exact hret _ _ _ _ d2_nodes_20 rfl (Or.inr ⟨c4, g, rfl, rfl⟩)
  · skip
    refine x_iconst (v := (-1)) h (pc' := 8) rfl d2_nodes_7 (by decide) ?_
    exact hret _ _ _ _ d2_nodes_8 rfl (Or.inl ⟨ne_f c4, rfl, rfl⟩)
/-- what doEvents does: done, or cut -/
def doC (A : Nat → Nat) (cI cZ cS : ClassId) (fk0 fv0 fr0 fd0 : Nat → Int32) (n0 : Nat) (fk3 fv3 fr3 fd3 : Nat → Int32) (n3 : Nat) (fk1 fv1 fr1 fd1 : Nat → Int32) (n1 : Nat) (fk2 fv2 fr2 fd2 : Nat → Int32) (n2 : Nat) (ft fu : Nat → Int32) (iu dn rs rf ct ev fe : Int32) (nn : Nat) (r : Int32) (w' : va_W) : Prop :=
  ((ct = -1 ∨ nI (5 * nn + 4) ≤ ct) ∧ r = nI nn ∧ w' = (wX A cI cZ cS (va_cpy fk3 fk0 0 0 n3) (va_cpy fv3 fv0 0 0 n3) (va_cpy fr3 fr0 0 0 n3) (va_cpy fd3 fd0 0 0 n3) (nI n3) fk3 fv3 fr3 fd3 (nI n3) fk1 fv1 fr1 fd1 (nI n1) fk2 fv2 fr2 fd2 (nI n2) ft fu iu dn rs rf (if ct = -1 then ct else ct - nI (5 * nn + 4)) (ev + nI (5 * nn + 4)) (fe + nI 1 + nI 1))) ∨ (ct ≠ -1 ∧ ct < nI (5 * nn + 4) ∧ r = -2 ∧ w' = (wX A cI cZ cS fk0 fv0 fr0 fd0 (nI n0) fk3 fv3 fr3 fd3 (nI n3) fk1 fv1 fr1 fd1 (nI n1) fk2 fv2 fr2 fd2 (nI n2) ft fu iu (nI 1) (bi (decide (nI (5 * nn + 2) ≤ ct))) (bi (decide (nI (5 * nn + 3) ≤ ct))) (-1) (ev + ct) (if nI (5 * nn + 1) ≤ ct then fe + nI 1 else fe)))
set_option maxRecDepth 100000 in
set_option maxHeartbeats 4000000 in
theorem k2_doEvents (l : Launch) (D : va_G) (cI cZ cS : ClassId) (A : Nat → Nat) (fk0 fv0 fr0 fd0 : Nat → Int32) (n0 : Nat) (fk3 fv3 fr3 fd3 : Nat → Int32) (n3 : Nat) (fk1 fv1 fr1 fd1 : Nat → Int32) (n1 : Nat) (fk2 fv2 fr2 fd2 : Nat → Int32) (n2 : Nat) (ft fu : Nat → Int32) (iu : Int32) (dn rs rf ct ev fe : Int32) (h0 : n0 ≤ 30) (h3 : n3 ≤ 30) (h1 : n1 ≤ 30) (h2 : n2 ≤ 30) (nn : Nat) (hn : nn ≤ 30) : CI l y2_doEvents w2_doEvents (rmd 2) D (TS3 cI cZ cS) [.ref (A 0), .int (nI nn)] (wX A cI cZ cS fk0 fv0 fr0 fd0 (nI n0) fk3 fv3 fr3 fd3 (nI n3) fk1 fv1 fr1 fd1 (nI n1) fk2 fv2 fr2 fd2 (nI n2) ft fu iu dn rs rf ct ev fe) (fun r w' => doC A cI cZ cS fk0 fv0 fr0 fd0 n0 fk3 fv3 fr3 fd3 n3 fk1 fv1 fr1 fd1 n1 fk2 fv2 fr2 fd2 n2 ft fu iu dn rs rf ct ev fe nn r w') := by
  refine x_metI (lv := [(0, .ref (A 0)), (1, .int (nI nn))]) (by decide +kernel) rfl rfl (Nat.le_of_ble_eq_true rfl) rfl ?_
  intro X h hret
  unfold doC at hret
  refine x_iconst (v := (nI 5)) h (pc' := 1) rfl d2_doEvents_0 (by decide) ?_
  refine x_iload_n h (pc' := 2) rfl d2_doEvents_1 1 rfl rfl ?_
  refine x_imul (z := (nI (5 * nn))) h (pc' := 3) rfl d2_doEvents_2 (pk_mul 5 nn) ?_
  refine x_istore_n (lv' := [(2, .int (nI (5 * nn))), (0, .ref (A 0)), (1, .int (nI nn))]) h (pc' := 4) rfl d2_doEvents_3 rfl (by decide) rfl ?_
  refine x_iload_n h (pc' := 5) rfl d2_doEvents_4 0 rfl rfl ?_
  refine x_iconst (v := (nI 4)) h (pc' := 6) rfl d2_doEvents_5 (by decide) ?_
  refine x_iadd (z := (nI ((5 * nn) + 4))) h (pc' := 7) rfl d2_doEvents_6 (nI_add (5 * nn) 4) ?_
  refine x_istore_n (lv' := [(3, .int (nI ((5 * nn) + 4))), (2, .int (nI (5 * nn))), (0, .ref (A 0)), (1, .int (nI nn))]) h (pc' := 8) rfl d2_doEvents_7 rfl (by decide) rfl ?_
  refine x_aload_n h (pc' := 9) rfl d2_doEvents_8 2 rfl rfl ?_
  refine x_get h (pc' := 12) rfl (fun c q => List.mem_cons_of_mem _ (in2 c q)) 0 8 rfl rfl (by decide) (List.mem_cons_of_mem _ lk2_34) rfl rfl d2_doEvents_9 ?_
  refine x_iconst (v := (-1)) h (pc' := 13) rfl d2_doEvents_12 (by decide) ?_
  refine x_icmp_eq (tg := 28) h (pc' := 16) rfl d2_doEvents_13 (by decide) Iff.rfl (fun c13 => ?_) (fun c13 => ?_)
  · skip
    refine x_iconst (v := (nI 0)) h (pc' := 29) rfl d2_doEvents_28 (by decide) ?_
    refine x_top (y := (bi false)) rfl ?_
    refine x_istore (lv' := [(4, .int (bi false)), (3, .int (nI ((5 * nn) + 4))), (2, .int (nI (5 * nn))), (0, .ref (A 0)), (1, .int (nI nn))]) h (pc' := 31) rfl d2_doEvents_29 (by decide) rfl ?_
    refine x_iload h (pc' := 33) rfl d2_doEvents_31 0 rfl ?_
    refine x_if_eq (tg := 43) h (pc' := 36) rfl d2_doEvents_33 (by decide) (bi_0 _) (fun c33 => ?_) (fun c33 => ?_)
    · skip
      refine x_iload_n h (pc' := 44) rfl d2_doEvents_43 1 rfl rfl ?_
      refine x_istore (lv' := [(5, .int (nI ((5 * nn) + 4))), (4, .int (bi false)), (3, .int (nI ((5 * nn) + 4))), (2, .int (nI (5 * nn))), (0, .ref (A 0)), (1, .int (nI nn))]) h (pc' := 46) rfl d2_doEvents_44 (by decide) rfl ?_
      refine x_aload_n h (pc' := 47) rfl d2_doEvents_46 4 rfl rfl ?_
      refine x_dup h (pc' := 48) rfl d2_doEvents_47 rfl ?_
      refine x_get h (pc' := 51) rfl (fun c q => List.mem_cons_of_mem _ (in2 c q)) 0 9 rfl rfl (by decide) (List.mem_cons_of_mem _ lk2_103) rfl rfl d2_doEvents_48 ?_
      refine x_iload h (pc' := 53) rfl d2_doEvents_51 0 rfl ?_
      refine x_iadd (z := (ev + (nI ((5 * nn) + 4)))) h (pc' := 54) rfl d2_doEvents_53 rfl ?_
      refine x_put (w' := (wX A cI cZ cS fk0 fv0 fr0 fd0 (nI n0) fk3 fv3 fr3 fd3 (nI n3) fk1 fv1 fr1 fd1 (nI n1) fk2 fv2 fr2 fd2 (nI n2) ft fu iu dn rs rf ct (ev + (nI ((5 * nn) + 4))) fe)) (ty := .int) h (pc' := 57) rfl (fun c q => List.mem_cons_of_mem _ (in2 c q)) ok2 nm2 0 9 rfl rfl (by decide) (List.mem_cons_of_mem _ lk2_103) rfl rfl rfl rfl rfl (Nat.le_of_ble_eq_true rfl) rfl d2_doEvents_54 ?_
      refine x_iload h (pc' := 59) rfl d2_doEvents_57 0 rfl ?_
      refine x_iload_n h (pc' := 60) rfl d2_doEvents_59 3 rfl rfl ?_
      refine x_iconst (v := (nI 1)) h (pc' := 61) rfl d2_doEvents_60 (by decide) ?_
      refine x_iadd (z := (nI ((5 * nn) + 1))) h (pc' := 62) rfl d2_doEvents_61 (nI_add (5 * nn) 1) ?_
      refine x_icmp_lt (tg := 75) h (pc' := 65) rfl d2_doEvents_62 (by decide) (nI_ltI (by omega) (by omega)) (fun c62 => ?_) (fun c62 => ?_)
      · skip
        exact absurd c62 (by omega)
      · skip
        refine x_aload_n h (pc' := 66) rfl d2_doEvents_65 4 rfl rfl ?_
        refine x_dup h (pc' := 67) rfl d2_doEvents_66 rfl ?_
        refine x_get h (pc' := 70) rfl (fun c q => List.mem_cons_of_mem _ (in2 c q)) 0 10 rfl rfl (by decide) (List.mem_cons_of_mem _ lk2_106) rfl rfl d2_doEvents_67 ?_
        refine x_iconst (v := (nI 1)) h (pc' := 71) rfl d2_doEvents_70 (by decide) ?_
        refine x_iadd (z := (fe + (nI 1))) h (pc' := 72) rfl d2_doEvents_71 rfl ?_
        refine x_put (w' := (wX A cI cZ cS fk0 fv0 fr0 fd0 (nI n0) fk3 fv3 fr3 fd3 (nI n3) fk1 fv1 fr1 fd1 (nI n1) fk2 fv2 fr2 fd2 (nI n2) ft fu iu dn rs rf ct (ev + (nI ((5 * nn) + 4))) (fe + (nI 1)))) (ty := .int) h (pc' := 75) rfl (fun c q => List.mem_cons_of_mem _ (in2 c q)) ok2 nm2 0 10 rfl rfl (by decide) (List.mem_cons_of_mem _ lk2_106) rfl rfl rfl rfl rfl (Nat.le_of_ble_eq_true rfl) rfl d2_doEvents_72 ?_
        refine x_iload h (pc' := 77) rfl d2_doEvents_75 0 rfl ?_
        refine x_iload_n h (pc' := 78) rfl d2_doEvents_77 3 rfl rfl ?_
        refine x_iconst (v := (nI 4)) h (pc' := 79) rfl d2_doEvents_78 (by decide) ?_
        refine x_iadd (z := (nI ((5 * nn) + 4))) h (pc' := 80) rfl d2_doEvents_79 (nI_add (5 * nn) 4) ?_
        refine x_icmp_lt (tg := 93) h (pc' := 83) rfl d2_doEvents_80 (by decide) (nI_ltI (by omega) (by omega)) (fun c80 => ?_) (fun c80 => ?_)
        · skip
          exact absurd c80 (by omega)
        · skip
          refine x_aload_n h (pc' := 84) rfl d2_doEvents_83 4 rfl rfl ?_
          refine x_dup h (pc' := 85) rfl d2_doEvents_84 rfl ?_
          refine x_get h (pc' := 88) rfl (fun c q => List.mem_cons_of_mem _ (in2 c q)) 0 10 rfl rfl (by decide) (List.mem_cons_of_mem _ lk2_106) rfl rfl d2_doEvents_85 ?_
          refine x_iconst (v := (nI 1)) h (pc' := 89) rfl d2_doEvents_88 (by decide) ?_
          refine x_iadd (z := ((fe + (nI 1)) + (nI 1))) h (pc' := 90) rfl d2_doEvents_89 rfl ?_
          refine x_put (w' := (wX A cI cZ cS fk0 fv0 fr0 fd0 (nI n0) fk3 fv3 fr3 fd3 (nI n3) fk1 fv1 fr1 fd1 (nI n1) fk2 fv2 fr2 fd2 (nI n2) ft fu iu dn rs rf ct (ev + (nI ((5 * nn) + 4))) ((fe + (nI 1)) + (nI 1)))) (ty := .int) h (pc' := 93) rfl (fun c q => List.mem_cons_of_mem _ (in2 c q)) ok2 nm2 0 10 rfl rfl (by decide) (List.mem_cons_of_mem _ lk2_106) rfl rfl rfl rfl rfl (Nat.le_of_ble_eq_true rfl) rfl d2_doEvents_90 ?_
          refine x_iload h (pc' := 95) rfl d2_doEvents_93 1 rfl ?_
          refine x_if_eq (tg := 145) h (pc' := 98) rfl d2_doEvents_95 (by decide) (bi_0 _) (fun c95 => ?_) (fun c95 => ?_)
          · skip
            refine x_aload_n h (pc' := 146) rfl d2_doEvents_145 4 rfl rfl ?_
            refine x_get h (pc' := 149) rfl (fun c q => List.mem_cons_of_mem _ (in2 c q)) 0 8 rfl rfl (by decide) (List.mem_cons_of_mem _ lk2_34) rfl rfl d2_doEvents_146 ?_
            refine x_iconst (v := (-1)) h (pc' := 150) rfl d2_doEvents_149 (by decide) ?_
            refine x_icmp_eq (tg := 164) h (pc' := 153) rfl d2_doEvents_150 (by decide) Iff.rfl (fun c150 => ?_) (fun c150 => ?_)
            · skip
              refine x_aload_n h (pc' := 165) rfl d2_doEvents_164 4 rfl rfl ?_
              refine x_get h (pc' := 168) rfl (fun c q => List.mem_cons_of_mem _ (in2 c q)) 0 0 rfl rfl (by decide) (List.mem_cons_of_mem _ lk2_10) rfl rfl d2_doEvents_165 ?_
              refine x_aload_n h (pc' := 169) rfl d2_doEvents_168 4 rfl rfl ?_
              refine x_get h (pc' := 172) rfl (fun c q => List.mem_cons_of_mem _ (in2 c q)) 0 1 rfl rfl (by decide) (List.mem_cons_of_mem _ lk2_16) rfl rfl d2_doEvents_169 ?_
              -- copyFrom
              refine x_vV h (pc' := 175) rfl [.ref (A 6)] (k1_copyFrom l D cI cZ cS (A 1) (A 2) (A 3) (A 4) (A 5) fk0 fv0 fr0 fd0 n0 (by omega) (A 6) (A 7) (A 8) (A 9) (A 10) fk3 fv3 fr3 fd3 n3 (by omega)) d2_doEvents_172 1 (gd_V ml2_60 im1_copyFrom se1_copyFrom ini1 cd1_copyFrom) rfl ⟨rfl, rfl⟩ hd1_copyFrom ⟨by decide, by decide⟩ ⟨Nat.zero_le _, Nat.zero_le _⟩ 1 rfl rfl rfl [1, 2, 3, 4, 5, 6, 7, 8, 9, 10] rfl rfl rfl (Nat.le_of_ble_eq_true rfl) rfl (fun ww172 pp172 ee172 => ?_)
              subst pp172
              refine x_w (w' := (wX A cI cZ cS (va_cpy fk3 fk0 0 0 n3) (va_cpy fv3 fv0 0 0 n3) (va_cpy fr3 fr0 0 0 n3) (va_cpy fd3 fd0 0 0 n3) (nI n3) fk3 fv3 fr3 fd3 (nI n3) fk1 fv1 fr1 fd1 (nI n1) fk2 fv2 fr2 fd2 (nI n2) ft fu iu dn rs rf ct (ev + (nI ((5 * nn) + 4))) ((fe + (nI 1)) + (nI 1)))) rfl ?_
              refine x_iload_n h (pc' := 176) rfl d2_doEvents_175 5 rfl rfl ?_
              exact hret _ _ _ _ d2_doEvents_176 rfl (Or.inl ⟨by first | exact Or.inl c13 | exact Or.inr c21, rfl, by first | rw [if_pos c150] | rw [if_neg c150]⟩)
            · skip
              refine x_aload_n h (pc' := 154) rfl d2_doEvents_153 4 rfl rfl ?_
              refine x_dup h (pc' := 155) rfl d2_doEvents_154 rfl ?_
              refine x_get h (pc' := 158) rfl (fun c q => List.mem_cons_of_mem _ (in2 c q)) 0 8 rfl rfl (by decide) (List.mem_cons_of_mem _ lk2_34) rfl rfl d2_doEvents_155 ?_
              refine x_iload h (pc' := 160) rfl d2_doEvents_158 0 rfl ?_
              refine x_isub (z := (ct - (nI ((5 * nn) + 4)))) h (pc' := 161) rfl d2_doEvents_160 rfl ?_
              refine x_put (w' := (wX A cI cZ cS fk0 fv0 fr0 fd0 (nI n0) fk3 fv3 fr3 fd3 (nI n3) fk1 fv1 fr1 fd1 (nI n1) fk2 fv2 fr2 fd2 (nI n2) ft fu iu dn rs rf (ct - (nI ((5 * nn) + 4))) (ev + (nI ((5 * nn) + 4))) ((fe + (nI 1)) + (nI 1)))) (ty := .int) h (pc' := 164) rfl (fun c q => List.mem_cons_of_mem _ (in2 c q)) ok2 nm2 0 8 rfl rfl (by decide) (List.mem_cons_of_mem _ lk2_34) rfl rfl rfl rfl rfl (Nat.le_of_ble_eq_true rfl) rfl d2_doEvents_161 ?_
              refine x_aload_n h (pc' := 165) rfl d2_doEvents_164 4 rfl rfl ?_
              refine x_get h (pc' := 168) rfl (fun c q => List.mem_cons_of_mem _ (in2 c q)) 0 0 rfl rfl (by decide) (List.mem_cons_of_mem _ lk2_10) rfl rfl d2_doEvents_165 ?_
              refine x_aload_n h (pc' := 169) rfl d2_doEvents_168 4 rfl rfl ?_
              refine x_get h (pc' := 172) rfl (fun c q => List.mem_cons_of_mem _ (in2 c q)) 0 1 rfl rfl (by decide) (List.mem_cons_of_mem _ lk2_16) rfl rfl d2_doEvents_169 ?_
              -- copyFrom
              refine x_vV h (pc' := 175) rfl [.ref (A 6)] (k1_copyFrom l D cI cZ cS (A 1) (A 2) (A 3) (A 4) (A 5) fk0 fv0 fr0 fd0 n0 (by omega) (A 6) (A 7) (A 8) (A 9) (A 10) fk3 fv3 fr3 fd3 n3 (by omega)) d2_doEvents_172 1 (gd_V ml2_60 im1_copyFrom se1_copyFrom ini1 cd1_copyFrom) rfl ⟨rfl, rfl⟩ hd1_copyFrom ⟨by decide, by decide⟩ ⟨Nat.zero_le _, Nat.zero_le _⟩ 1 rfl rfl rfl [1, 2, 3, 4, 5, 6, 7, 8, 9, 10] rfl rfl rfl (Nat.le_of_ble_eq_true rfl) rfl (fun ww172 pp172 ee172 => ?_)
              subst pp172
              refine x_w (w' := (wX A cI cZ cS (va_cpy fk3 fk0 0 0 n3) (va_cpy fv3 fv0 0 0 n3) (va_cpy fr3 fr0 0 0 n3) (va_cpy fd3 fd0 0 0 n3) (nI n3) fk3 fv3 fr3 fd3 (nI n3) fk1 fv1 fr1 fd1 (nI n1) fk2 fv2 fr2 fd2 (nI n2) ft fu iu dn rs rf (ct - (nI ((5 * nn) + 4))) (ev + (nI ((5 * nn) + 4))) ((fe + (nI 1)) + (nI 1)))) rfl ?_
              refine x_iload_n h (pc' := 176) rfl d2_doEvents_175 5 rfl rfl ?_
              exact hret _ _ _ _ d2_doEvents_176 rfl (Or.inl ⟨by first | exact Or.inl c13 | exact Or.inr c21, rfl, by first | rw [if_pos c150] | rw [if_neg c150]⟩)
          · skip
            exact absurd rfl c95
    · skip
      exact absurd rfl c33
  · skip
    refine x_aload_n h (pc' := 17) rfl d2_doEvents_16 2 rfl rfl ?_
    refine x_get h (pc' := 20) rfl (fun c q => List.mem_cons_of_mem _ (in2 c q)) 0 8 rfl rfl (by decide) (List.mem_cons_of_mem _ lk2_34) rfl rfl d2_doEvents_17 ?_
    refine x_iload_n h (pc' := 21) rfl d2_doEvents_20 0 rfl rfl ?_
    refine x_icmp_ge (tg := 28) h (pc' := 24) rfl d2_doEvents_21 (by decide) Iff.rfl (fun c21 => ?_) (fun c21 => ?_)
    · skip
      refine x_iconst (v := (nI 0)) h (pc' := 29) rfl d2_doEvents_28 (by decide) ?_
      refine x_top (y := (bi false)) rfl ?_
      refine x_istore (lv' := [(4, .int (bi false)), (3, .int (nI ((5 * nn) + 4))), (2, .int (nI (5 * nn))), (0, .ref (A 0)), (1, .int (nI nn))]) h (pc' := 31) rfl d2_doEvents_29 (by decide) rfl ?_
      refine x_iload h (pc' := 33) rfl d2_doEvents_31 0 rfl ?_
      refine x_if_eq (tg := 43) h (pc' := 36) rfl d2_doEvents_33 (by decide) (bi_0 _) (fun c33 => ?_) (fun c33 => ?_)
      · skip
        refine x_iload_n h (pc' := 44) rfl d2_doEvents_43 1 rfl rfl ?_
        refine x_istore (lv' := [(5, .int (nI ((5 * nn) + 4))), (4, .int (bi false)), (3, .int (nI ((5 * nn) + 4))), (2, .int (nI (5 * nn))), (0, .ref (A 0)), (1, .int (nI nn))]) h (pc' := 46) rfl d2_doEvents_44 (by decide) rfl ?_
        refine x_aload_n h (pc' := 47) rfl d2_doEvents_46 4 rfl rfl ?_
        refine x_dup h (pc' := 48) rfl d2_doEvents_47 rfl ?_
        refine x_get h (pc' := 51) rfl (fun c q => List.mem_cons_of_mem _ (in2 c q)) 0 9 rfl rfl (by decide) (List.mem_cons_of_mem _ lk2_103) rfl rfl d2_doEvents_48 ?_
        refine x_iload h (pc' := 53) rfl d2_doEvents_51 0 rfl ?_
        refine x_iadd (z := (ev + (nI ((5 * nn) + 4)))) h (pc' := 54) rfl d2_doEvents_53 rfl ?_
        refine x_put (w' := (wX A cI cZ cS fk0 fv0 fr0 fd0 (nI n0) fk3 fv3 fr3 fd3 (nI n3) fk1 fv1 fr1 fd1 (nI n1) fk2 fv2 fr2 fd2 (nI n2) ft fu iu dn rs rf ct (ev + (nI ((5 * nn) + 4))) fe)) (ty := .int) h (pc' := 57) rfl (fun c q => List.mem_cons_of_mem _ (in2 c q)) ok2 nm2 0 9 rfl rfl (by decide) (List.mem_cons_of_mem _ lk2_103) rfl rfl rfl rfl rfl (Nat.le_of_ble_eq_true rfl) rfl d2_doEvents_54 ?_
        refine x_iload h (pc' := 59) rfl d2_doEvents_57 0 rfl ?_
        refine x_iload_n h (pc' := 60) rfl d2_doEvents_59 3 rfl rfl ?_
        refine x_iconst (v := (nI 1)) h (pc' := 61) rfl d2_doEvents_60 (by decide) ?_
        refine x_iadd (z := (nI ((5 * nn) + 1))) h (pc' := 62) rfl d2_doEvents_61 (nI_add (5 * nn) 1) ?_
        refine x_icmp_lt (tg := 75) h (pc' := 65) rfl d2_doEvents_62 (by decide) (nI_ltI (by omega) (by omega)) (fun c62 => ?_) (fun c62 => ?_)
        · skip
          exact absurd c62 (by omega)
        · skip
          refine x_aload_n h (pc' := 66) rfl d2_doEvents_65 4 rfl rfl ?_
          refine x_dup h (pc' := 67) rfl d2_doEvents_66 rfl ?_
          refine x_get h (pc' := 70) rfl (fun c q => List.mem_cons_of_mem _ (in2 c q)) 0 10 rfl rfl (by decide) (List.mem_cons_of_mem _ lk2_106) rfl rfl d2_doEvents_67 ?_
          refine x_iconst (v := (nI 1)) h (pc' := 71) rfl d2_doEvents_70 (by decide) ?_
          refine x_iadd (z := (fe + (nI 1))) h (pc' := 72) rfl d2_doEvents_71 rfl ?_
          refine x_put (w' := (wX A cI cZ cS fk0 fv0 fr0 fd0 (nI n0) fk3 fv3 fr3 fd3 (nI n3) fk1 fv1 fr1 fd1 (nI n1) fk2 fv2 fr2 fd2 (nI n2) ft fu iu dn rs rf ct (ev + (nI ((5 * nn) + 4))) (fe + (nI 1)))) (ty := .int) h (pc' := 75) rfl (fun c q => List.mem_cons_of_mem _ (in2 c q)) ok2 nm2 0 10 rfl rfl (by decide) (List.mem_cons_of_mem _ lk2_106) rfl rfl rfl rfl rfl (Nat.le_of_ble_eq_true rfl) rfl d2_doEvents_72 ?_
          refine x_iload h (pc' := 77) rfl d2_doEvents_75 0 rfl ?_
          refine x_iload_n h (pc' := 78) rfl d2_doEvents_77 3 rfl rfl ?_
          refine x_iconst (v := (nI 4)) h (pc' := 79) rfl d2_doEvents_78 (by decide) ?_
          refine x_iadd (z := (nI ((5 * nn) + 4))) h (pc' := 80) rfl d2_doEvents_79 (nI_add (5 * nn) 4) ?_
          refine x_icmp_lt (tg := 93) h (pc' := 83) rfl d2_doEvents_80 (by decide) (nI_ltI (by omega) (by omega)) (fun c80 => ?_) (fun c80 => ?_)
          · skip
            exact absurd c80 (by omega)
          · skip
            refine x_aload_n h (pc' := 84) rfl d2_doEvents_83 4 rfl rfl ?_
            refine x_dup h (pc' := 85) rfl d2_doEvents_84 rfl ?_
            refine x_get h (pc' := 88) rfl (fun c q => List.mem_cons_of_mem _ (in2 c q)) 0 10 rfl rfl (by decide) (List.mem_cons_of_mem _ lk2_106) rfl rfl d2_doEvents_85 ?_
            refine x_iconst (v := (nI 1)) h (pc' := 89) rfl d2_doEvents_88 (by decide) ?_
            refine x_iadd (z := ((fe + (nI 1)) + (nI 1))) h (pc' := 90) rfl d2_doEvents_89 rfl ?_
            refine x_put (w' := (wX A cI cZ cS fk0 fv0 fr0 fd0 (nI n0) fk3 fv3 fr3 fd3 (nI n3) fk1 fv1 fr1 fd1 (nI n1) fk2 fv2 fr2 fd2 (nI n2) ft fu iu dn rs rf ct (ev + (nI ((5 * nn) + 4))) ((fe + (nI 1)) + (nI 1)))) (ty := .int) h (pc' := 93) rfl (fun c q => List.mem_cons_of_mem _ (in2 c q)) ok2 nm2 0 10 rfl rfl (by decide) (List.mem_cons_of_mem _ lk2_106) rfl rfl rfl rfl rfl (Nat.le_of_ble_eq_true rfl) rfl d2_doEvents_90 ?_
            refine x_iload h (pc' := 95) rfl d2_doEvents_93 1 rfl ?_
            refine x_if_eq (tg := 145) h (pc' := 98) rfl d2_doEvents_95 (by decide) (bi_0 _) (fun c95 => ?_) (fun c95 => ?_)
            · skip
              refine x_aload_n h (pc' := 146) rfl d2_doEvents_145 4 rfl rfl ?_
              refine x_get h (pc' := 149) rfl (fun c q => List.mem_cons_of_mem _ (in2 c q)) 0 8 rfl rfl (by decide) (List.mem_cons_of_mem _ lk2_34) rfl rfl d2_doEvents_146 ?_
              refine x_iconst (v := (-1)) h (pc' := 150) rfl d2_doEvents_149 (by decide) ?_
              refine x_icmp_eq (tg := 164) h (pc' := 153) rfl d2_doEvents_150 (by decide) Iff.rfl (fun c150 => ?_) (fun c150 => ?_)
              · skip
                refine x_aload_n h (pc' := 165) rfl d2_doEvents_164 4 rfl rfl ?_
                refine x_get h (pc' := 168) rfl (fun c q => List.mem_cons_of_mem _ (in2 c q)) 0 0 rfl rfl (by decide) (List.mem_cons_of_mem _ lk2_10) rfl rfl d2_doEvents_165 ?_
                refine x_aload_n h (pc' := 169) rfl d2_doEvents_168 4 rfl rfl ?_
                refine x_get h (pc' := 172) rfl (fun c q => List.mem_cons_of_mem _ (in2 c q)) 0 1 rfl rfl (by decide) (List.mem_cons_of_mem _ lk2_16) rfl rfl d2_doEvents_169 ?_
                -- copyFrom
                refine x_vV h (pc' := 175) rfl [.ref (A 6)] (k1_copyFrom l D cI cZ cS (A 1) (A 2) (A 3) (A 4) (A 5) fk0 fv0 fr0 fd0 n0 (by omega) (A 6) (A 7) (A 8) (A 9) (A 10) fk3 fv3 fr3 fd3 n3 (by omega)) d2_doEvents_172 1 (gd_V ml2_60 im1_copyFrom se1_copyFrom ini1 cd1_copyFrom) rfl ⟨rfl, rfl⟩ hd1_copyFrom ⟨by decide, by decide⟩ ⟨Nat.zero_le _, Nat.zero_le _⟩ 1 rfl rfl rfl [1, 2, 3, 4, 5, 6, 7, 8, 9, 10] rfl rfl rfl (Nat.le_of_ble_eq_true rfl) rfl (fun ww172 pp172 ee172 => ?_)
                subst pp172
                refine x_w (w' := (wX A cI cZ cS (va_cpy fk3 fk0 0 0 n3) (va_cpy fv3 fv0 0 0 n3) (va_cpy fr3 fr0 0 0 n3) (va_cpy fd3 fd0 0 0 n3) (nI n3) fk3 fv3 fr3 fd3 (nI n3) fk1 fv1 fr1 fd1 (nI n1) fk2 fv2 fr2 fd2 (nI n2) ft fu iu dn rs rf ct (ev + (nI ((5 * nn) + 4))) ((fe + (nI 1)) + (nI 1)))) rfl ?_
                refine x_iload_n h (pc' := 176) rfl d2_doEvents_175 5 rfl rfl ?_
                exact hret _ _ _ _ d2_doEvents_176 rfl (Or.inl ⟨by first | exact Or.inl c13 | exact Or.inr c21, rfl, by first | rw [if_pos c150] | rw [if_neg c150]⟩)
              · skip
                refine x_aload_n h (pc' := 154) rfl d2_doEvents_153 4 rfl rfl ?_
                refine x_dup h (pc' := 155) rfl d2_doEvents_154 rfl ?_
                refine x_get h (pc' := 158) rfl (fun c q => List.mem_cons_of_mem _ (in2 c q)) 0 8 rfl rfl (by decide) (List.mem_cons_of_mem _ lk2_34) rfl rfl d2_doEvents_155 ?_
                refine x_iload h (pc' := 160) rfl d2_doEvents_158 0 rfl ?_
                refine x_isub (z := (ct - (nI ((5 * nn) + 4)))) h (pc' := 161) rfl d2_doEvents_160 rfl ?_
                refine x_put (w' := (wX A cI cZ cS fk0 fv0 fr0 fd0 (nI n0) fk3 fv3 fr3 fd3 (nI n3) fk1 fv1 fr1 fd1 (nI n1) fk2 fv2 fr2 fd2 (nI n2) ft fu iu dn rs rf (ct - (nI ((5 * nn) + 4))) (ev + (nI ((5 * nn) + 4))) ((fe + (nI 1)) + (nI 1)))) (ty := .int) h (pc' := 164) rfl (fun c q => List.mem_cons_of_mem _ (in2 c q)) ok2 nm2 0 8 rfl rfl (by decide) (List.mem_cons_of_mem _ lk2_34) rfl rfl rfl rfl rfl (Nat.le_of_ble_eq_true rfl) rfl d2_doEvents_161 ?_
                refine x_aload_n h (pc' := 165) rfl d2_doEvents_164 4 rfl rfl ?_
                refine x_get h (pc' := 168) rfl (fun c q => List.mem_cons_of_mem _ (in2 c q)) 0 0 rfl rfl (by decide) (List.mem_cons_of_mem _ lk2_10) rfl rfl d2_doEvents_165 ?_
                refine x_aload_n h (pc' := 169) rfl d2_doEvents_168 4 rfl rfl ?_
                refine x_get h (pc' := 172) rfl (fun c q => List.mem_cons_of_mem _ (in2 c q)) 0 1 rfl rfl (by decide) (List.mem_cons_of_mem _ lk2_16) rfl rfl d2_doEvents_169 ?_
                -- copyFrom
                refine x_vV h (pc' := 175) rfl [.ref (A 6)] (k1_copyFrom l D cI cZ cS (A 1) (A 2) (A 3) (A 4) (A 5) fk0 fv0 fr0 fd0 n0 (by omega) (A 6) (A 7) (A 8) (A 9) (A 10) fk3 fv3 fr3 fd3 n3 (by omega)) d2_doEvents_172 1 (gd_V ml2_60 im1_copyFrom se1_copyFrom ini1 cd1_copyFrom) rfl ⟨rfl, rfl⟩ hd1_copyFrom ⟨by decide, by decide⟩ ⟨Nat.zero_le _, Nat.zero_le _⟩ 1 rfl rfl rfl [1, 2, 3, 4, 5, 6, 7, 8, 9, 10] rfl rfl rfl (Nat.le_of_ble_eq_true rfl) rfl (fun ww172 pp172 ee172 => ?_)
                subst pp172
                refine x_w (w' := (wX A cI cZ cS (va_cpy fk3 fk0 0 0 n3) (va_cpy fv3 fv0 0 0 n3) (va_cpy fr3 fr0 0 0 n3) (va_cpy fd3 fd0 0 0 n3) (nI n3) fk3 fv3 fr3 fd3 (nI n3) fk1 fv1 fr1 fd1 (nI n1) fk2 fv2 fr2 fd2 (nI n2) ft fu iu dn rs rf (ct - (nI ((5 * nn) + 4))) (ev + (nI ((5 * nn) + 4))) ((fe + (nI 1)) + (nI 1)))) rfl ?_
                refine x_iload_n h (pc' := 176) rfl d2_doEvents_175 5 rfl rfl ?_
                exact hret _ _ _ _ d2_doEvents_176 rfl (Or.inl ⟨by first | exact Or.inl c13 | exact Or.inr c21, rfl, by first | rw [if_pos c150] | rw [if_neg c150]⟩)
            · skip
              exact absurd rfl c95
      · skip
        exact absurd rfl c33
    · skip
      refine x_iconst (v := (nI 1)) h (pc' := 25) rfl d2_doEvents_24 (by decide) ?_
      refine x_goto (pc' := 29) h d2_doEvents_25 (by decide) ?_
      refine x_top (y := (bi true)) rfl ?_
      refine x_istore (lv' := [(4, .int (bi true)), (3, .int (nI ((5 * nn) + 4))), (2, .int (nI (5 * nn))), (0, .ref (A 0)), (1, .int (nI nn))]) h (pc' := 31) rfl d2_doEvents_29 (by decide) rfl ?_
      refine x_iload h (pc' := 33) rfl d2_doEvents_31 0 rfl ?_
      refine x_if_eq (tg := 43) h (pc' := 36) rfl d2_doEvents_33 (by decide) (bi_0 _) (fun c33 => ?_) (fun c33 => ?_)
      · skip
        cases c33
      · skip
        refine x_aload_n h (pc' := 37) rfl d2_doEvents_36 3 rfl rfl ?_
        refine x_get h (pc' := 40) rfl (fun c q => List.mem_cons_of_mem _ (in2 c q)) 0 8 rfl rfl (by decide) (List.mem_cons_of_mem _ lk2_34) rfl rfl d2_doEvents_37 ?_
        refine x_goto (pc' := 44) h d2_doEvents_40 (by decide) ?_
        refine x_istore (lv' := [(5, .int ct), (4, .int (bi true)), (3, .int (nI ((5 * nn) + 4))), (2, .int (nI (5 * nn))), (0, .ref (A 0)), (1, .int (nI nn))]) h (pc' := 46) rfl d2_doEvents_44 (by decide) rfl ?_
        refine x_aload_n h (pc' := 47) rfl d2_doEvents_46 4 rfl rfl ?_
        refine x_dup h (pc' := 48) rfl d2_doEvents_47 rfl ?_
        refine x_get h (pc' := 51) rfl (fun c q => List.mem_cons_of_mem _ (in2 c q)) 0 9 rfl rfl (by decide) (List.mem_cons_of_mem _ lk2_103) rfl rfl d2_doEvents_48 ?_
        refine x_iload h (pc' := 53) rfl d2_doEvents_51 0 rfl ?_
        refine x_iadd (z := (ev + ct)) h (pc' := 54) rfl d2_doEvents_53 rfl ?_
        refine x_put (w' := (wX A cI cZ cS fk0 fv0 fr0 fd0 (nI n0) fk3 fv3 fr3 fd3 (nI n3) fk1 fv1 fr1 fd1 (nI n1) fk2 fv2 fr2 fd2 (nI n2) ft fu iu dn rs rf ct (ev + ct) fe)) (ty := .int) h (pc' := 57) rfl (fun c q => List.mem_cons_of_mem _ (in2 c q)) ok2 nm2 0 9 rfl rfl (by decide) (List.mem_cons_of_mem _ lk2_103) rfl rfl rfl rfl rfl (Nat.le_of_ble_eq_true rfl) rfl d2_doEvents_54 ?_
        refine x_iload h (pc' := 59) rfl d2_doEvents_57 0 rfl ?_
        refine x_iload_n h (pc' := 60) rfl d2_doEvents_59 3 rfl rfl ?_
        refine x_iconst (v := (nI 1)) h (pc' := 61) rfl d2_doEvents_60 (by decide) ?_
        refine x_iadd (z := (nI ((5 * nn) + 1))) h (pc' := 62) rfl d2_doEvents_61 (nI_add (5 * nn) 1) ?_
        refine x_icmp_lt (tg := 75) h (pc' := 65) rfl d2_doEvents_62 (by decide) Iff.rfl (fun c62 => ?_) (fun c62 => ?_)
        · skip
          refine x_iload h (pc' := 77) rfl d2_doEvents_75 0 rfl ?_
          refine x_iload_n h (pc' := 78) rfl d2_doEvents_77 3 rfl rfl ?_
          refine x_iconst (v := (nI 4)) h (pc' := 79) rfl d2_doEvents_78 (by decide) ?_
          refine x_iadd (z := (nI ((5 * nn) + 4))) h (pc' := 80) rfl d2_doEvents_79 (nI_add (5 * nn) 4) ?_
          refine x_icmp_lt (tg := 93) h (pc' := 83) rfl d2_doEvents_80 (by decide) Iff.rfl (fun c80 => ?_) (fun c80 => ?_)
          · skip
            refine x_iload h (pc' := 95) rfl d2_doEvents_93 1 rfl ?_
            refine x_if_eq (tg := 145) h (pc' := 98) rfl d2_doEvents_95 (by decide) (bi_0 _) (fun c95 => ?_) (fun c95 => ?_)
            · skip
              cases c95
            · skip
              refine x_aload_n h (pc' := 99) rfl d2_doEvents_98 4 rfl rfl ?_
              refine x_iload h (pc' := 101) rfl d2_doEvents_99 0 rfl ?_
              refine x_iload_n h (pc' := 102) rfl d2_doEvents_101 3 rfl rfl ?_
              refine x_iconst (v := (nI 2)) h (pc' := 103) rfl d2_doEvents_102 (by decide) ?_
              refine x_iadd (z := (nI ((5 * nn) + 2))) h (pc' := 104) rfl d2_doEvents_103 (nI_add (5 * nn) 2) ?_
              refine x_icmp_lt (tg := 111) h (pc' := 107) rfl d2_doEvents_104 (by decide) Iff.rfl (fun c104 => ?_) (fun c104 => ?_)
              · skip
                refine x_iconst (v := (nI 0)) h (pc' := 112) rfl d2_doEvents_111 (by decide) ?_
                refine x_top (y := (bi (decide (nI (5 * nn + 2) ≤ ct)))) (bi0 (decide_eq_false (Int32.not_le.mpr c104))) ?_
                refine x_put (w' := (wX A cI cZ cS fk0 fv0 fr0 fd0 (nI n0) fk3 fv3 fr3 fd3 (nI n3) fk1 fv1 fr1 fd1 (nI n1) fk2 fv2 fr2 fd2 (nI n2) ft fu iu dn (bi (decide (nI (5 * nn + 2) ≤ ct))) rf ct (ev + ct) fe)) (ty := .boolean) h (pc' := 115) rfl (fun c q => List.mem_cons_of_mem _ (in2 c q)) ok2 nm2 0 6 rfl rfl (by decide) (List.mem_cons_of_mem _ lk2_100) rfl rfl rfl (bi_nar _) (bi_fits _) (Nat.le_of_ble_eq_true rfl) rfl d2_doEvents_112 ?_
                refine x_aload_n h (pc' := 116) rfl d2_doEvents_115 4 rfl rfl ?_
                refine x_iload h (pc' := 118) rfl d2_doEvents_116 0 rfl ?_
                refine x_iload_n h (pc' := 119) rfl d2_doEvents_118 3 rfl rfl ?_
                refine x_iconst (v := (nI 3)) h (pc' := 120) rfl d2_doEvents_119 (by decide) ?_
                refine x_iadd (z := (nI ((5 * nn) + 3))) h (pc' := 121) rfl d2_doEvents_120 (nI_add (5 * nn) 3) ?_
                refine x_icmp_lt (tg := 128) h (pc' := 124) rfl d2_doEvents_121 (by decide) Iff.rfl (fun c121 => ?_) (fun c121 => ?_)
                · skip
                  refine x_iconst (v := (nI 0)) h (pc' := 129) rfl d2_doEvents_128 (by decide) ?_
                  refine x_top (y := (bi (decide (nI (5 * nn + 3) ≤ ct)))) (bi0 (decide_eq_false (Int32.not_le.mpr c121))) ?_
                  refine x_put (w' := (wX A cI cZ cS fk0 fv0 fr0 fd0 (nI n0) fk3 fv3 fr3 fd3 (nI n3) fk1 fv1 fr1 fd1 (nI n1) fk2 fv2 fr2 fd2 (nI n2) ft fu iu dn (bi (decide (nI (5 * nn + 2) ≤ ct))) (bi (decide (nI (5 * nn + 3) ≤ ct))) ct (ev + ct) fe)) (ty := .boolean) h (pc' := 132) rfl (fun c q => List.mem_cons_of_mem _ (in2 c q)) ok2 nm2 0 7 rfl rfl (by decide) (List.mem_cons_of_mem _ lk2_97) rfl rfl rfl (bi_nar _) (bi_fits _) (Nat.le_of_ble_eq_true rfl) rfl d2_doEvents_129 ?_
                  refine x_aload_n h (pc' := 133) rfl d2_doEvents_132 4 rfl rfl ?_
                  refine x_iconst (v := (-1)) h (pc' := 134) rfl d2_doEvents_133 (by decide) ?_
                  refine x_put (w' := (wX A cI cZ cS fk0 fv0 fr0 fd0 (nI n0) fk3 fv3 fr3 fd3 (nI n3) fk1 fv1 fr1 fd1 (nI n1) fk2 fv2 fr2 fd2 (nI n2) ft fu iu dn (bi (decide (nI (5 * nn + 2) ≤ ct))) (bi (decide (nI (5 * nn + 3) ≤ ct))) (-1) (ev + ct) fe)) (ty := .int) h (pc' := 137) rfl (fun c q => List.mem_cons_of_mem _ (in2 c q)) ok2 nm2 0 8 rfl rfl (by decide) (List.mem_cons_of_mem _ lk2_34) rfl rfl rfl rfl rfl (Nat.le_of_ble_eq_true rfl) rfl d2_doEvents_134 ?_
                  refine x_aload_n h (pc' := 138) rfl d2_doEvents_137 4 rfl rfl ?_
                  refine x_iconst (v := (nI 1)) h (pc' := 139) rfl d2_doEvents_138 (by decide) ?_
                  refine x_put (w' := (wX A cI cZ cS fk0 fv0 fr0 fd0 (nI n0) fk3 fv3 fr3 fd3 (nI n3) fk1 fv1 fr1 fd1 (nI n1) fk2 fv2 fr2 fd2 (nI n2) ft fu iu (nI 1) (bi (decide (nI (5 * nn + 2) ≤ ct))) (bi (decide (nI (5 * nn + 3) ≤ ct))) (-1) (ev + ct) fe)) (ty := .boolean) h (pc' := 142) rfl (fun c q => List.mem_cons_of_mem _ (in2 c q)) ok2 nm2 0 5 rfl rfl (by decide) (List.mem_cons_of_mem _ lk2_38) rfl rfl rfl rfl rfl (Nat.le_of_ble_eq_true rfl) rfl d2_doEvents_139 ?_
                  refine x_bipush (v := (-2)) h (pc' := 144) rfl d2_doEvents_142 (by decide) ?_
                  exact hret _ _ _ _ d2_doEvents_144 rfl (Or.inr ⟨c13, Int32.not_le.mp c21, rfl, by first | rw [if_pos (Int32.not_lt.mp c62)] | rw [if_neg (Int32.not_le.mpr c62)]⟩)
                · skip
                  refine x_iconst (v := (nI 1)) h (pc' := 125) rfl d2_doEvents_124 (by decide) ?_
                  refine x_goto (pc' := 129) h d2_doEvents_125 (by decide) ?_
                  refine x_top (y := (bi (decide (nI (5 * nn + 3) ≤ ct)))) (bi1 (decide_eq_true (Int32.not_lt.mp c121))) ?_
                  refine x_put (w' := (wX A cI cZ cS fk0 fv0 fr0 fd0 (nI n0) fk3 fv3 fr3 fd3 (nI n3) fk1 fv1 fr1 fd1 (nI n1) fk2 fv2 fr2 fd2 (nI n2) ft fu iu dn (bi (decide (nI (5 * nn + 2) ≤ ct))) (bi (decide (nI (5 * nn + 3) ≤ ct))) ct (ev + ct) fe)) (ty := .boolean) h (pc' := 132) rfl (fun c q => List.mem_cons_of_mem _ (in2 c q)) ok2 nm2 0 7 rfl rfl (by decide) (List.mem_cons_of_mem _ lk2_97) rfl rfl rfl (bi_nar _) (bi_fits _) (Nat.le_of_ble_eq_true rfl) rfl d2_doEvents_129 ?_
                  refine x_aload_n h (pc' := 133) rfl d2_doEvents_132 4 rfl rfl ?_
                  refine x_iconst (v := (-1)) h (pc' := 134) rfl d2_doEvents_133 (by decide) ?_
                  refine x_put (w' := (wX A cI cZ cS fk0 fv0 fr0 fd0 (nI n0) fk3 fv3 fr3 fd3 (nI n3) fk1 fv1 fr1 fd1 (nI n1) fk2 fv2 fr2 fd2 (nI n2) ft fu iu dn (bi (decide (nI (5 * nn + 2) ≤ ct))) (bi (decide (nI (5 * nn + 3) ≤ ct))) (-1) (ev + ct) fe)) (ty := .int) h (pc' := 137) rfl (fun c q => List.mem_cons_of_mem _ (in2 c q)) ok2 nm2 0 8 rfl rfl (by decide) (List.mem_cons_of_mem _ lk2_34) rfl rfl rfl rfl rfl (Nat.le_of_ble_eq_true rfl) rfl d2_doEvents_134 ?_
                  refine x_aload_n h (pc' := 138) rfl d2_doEvents_137 4 rfl rfl ?_
                  refine x_iconst (v := (nI 1)) h (pc' := 139) rfl d2_doEvents_138 (by decide) ?_
                  refine x_put (w' := (wX A cI cZ cS fk0 fv0 fr0 fd0 (nI n0) fk3 fv3 fr3 fd3 (nI n3) fk1 fv1 fr1 fd1 (nI n1) fk2 fv2 fr2 fd2 (nI n2) ft fu iu (nI 1) (bi (decide (nI (5 * nn + 2) ≤ ct))) (bi (decide (nI (5 * nn + 3) ≤ ct))) (-1) (ev + ct) fe)) (ty := .boolean) h (pc' := 142) rfl (fun c q => List.mem_cons_of_mem _ (in2 c q)) ok2 nm2 0 5 rfl rfl (by decide) (List.mem_cons_of_mem _ lk2_38) rfl rfl rfl rfl rfl (Nat.le_of_ble_eq_true rfl) rfl d2_doEvents_139 ?_
                  refine x_bipush (v := (-2)) h (pc' := 144) rfl d2_doEvents_142 (by decide) ?_
                  exact hret _ _ _ _ d2_doEvents_144 rfl (Or.inr ⟨c13, Int32.not_le.mp c21, rfl, by first | rw [if_pos (Int32.not_lt.mp c62)] | rw [if_neg (Int32.not_le.mpr c62)]⟩)
              · skip
                refine x_iconst (v := (nI 1)) h (pc' := 108) rfl d2_doEvents_107 (by decide) ?_
                refine x_goto (pc' := 112) h d2_doEvents_108 (by decide) ?_
                refine x_top (y := (bi (decide (nI (5 * nn + 2) ≤ ct)))) (bi1 (decide_eq_true (Int32.not_lt.mp c104))) ?_
                refine x_put (w' := (wX A cI cZ cS fk0 fv0 fr0 fd0 (nI n0) fk3 fv3 fr3 fd3 (nI n3) fk1 fv1 fr1 fd1 (nI n1) fk2 fv2 fr2 fd2 (nI n2) ft fu iu dn (bi (decide (nI (5 * nn + 2) ≤ ct))) rf ct (ev + ct) fe)) (ty := .boolean) h (pc' := 115) rfl (fun c q => List.mem_cons_of_mem _ (in2 c q)) ok2 nm2 0 6 rfl rfl (by decide) (List.mem_cons_of_mem _ lk2_100) rfl rfl rfl (bi_nar _) (bi_fits _) (Nat.le_of_ble_eq_true rfl) rfl d2_doEvents_112 ?_
                refine x_aload_n h (pc' := 116) rfl d2_doEvents_115 4 rfl rfl ?_
                refine x_iload h (pc' := 118) rfl d2_doEvents_116 0 rfl ?_
                refine x_iload_n h (pc' := 119) rfl d2_doEvents_118 3 rfl rfl ?_
                refine x_iconst (v := (nI 3)) h (pc' := 120) rfl d2_doEvents_119 (by decide) ?_
                refine x_iadd (z := (nI ((5 * nn) + 3))) h (pc' := 121) rfl d2_doEvents_120 (nI_add (5 * nn) 3) ?_
                refine x_icmp_lt (tg := 128) h (pc' := 124) rfl d2_doEvents_121 (by decide) Iff.rfl (fun c121 => ?_) (fun c121 => ?_)
                · skip
                  refine x_iconst (v := (nI 0)) h (pc' := 129) rfl d2_doEvents_128 (by decide) ?_
                  refine x_top (y := (bi (decide (nI (5 * nn + 3) ≤ ct)))) (bi0 (decide_eq_false (Int32.not_le.mpr c121))) ?_
                  refine x_put (w' := (wX A cI cZ cS fk0 fv0 fr0 fd0 (nI n0) fk3 fv3 fr3 fd3 (nI n3) fk1 fv1 fr1 fd1 (nI n1) fk2 fv2 fr2 fd2 (nI n2) ft fu iu dn (bi (decide (nI (5 * nn + 2) ≤ ct))) (bi (decide (nI (5 * nn + 3) ≤ ct))) ct (ev + ct) fe)) (ty := .boolean) h (pc' := 132) rfl (fun c q => List.mem_cons_of_mem _ (in2 c q)) ok2 nm2 0 7 rfl rfl (by decide) (List.mem_cons_of_mem _ lk2_97) rfl rfl rfl (bi_nar _) (bi_fits _) (Nat.le_of_ble_eq_true rfl) rfl d2_doEvents_129 ?_
                  refine x_aload_n h (pc' := 133) rfl d2_doEvents_132 4 rfl rfl ?_
                  refine x_iconst (v := (-1)) h (pc' := 134) rfl d2_doEvents_133 (by decide) ?_
                  refine x_put (w' := (wX A cI cZ cS fk0 fv0 fr0 fd0 (nI n0) fk3 fv3 fr3 fd3 (nI n3) fk1 fv1 fr1 fd1 (nI n1) fk2 fv2 fr2 fd2 (nI n2) ft fu iu dn (bi (decide (nI (5 * nn + 2) ≤ ct))) (bi (decide (nI (5 * nn + 3) ≤ ct))) (-1) (ev + ct) fe)) (ty := .int) h (pc' := 137) rfl (fun c q => List.mem_cons_of_mem _ (in2 c q)) ok2 nm2 0 8 rfl rfl (by decide) (List.mem_cons_of_mem _ lk2_34) rfl rfl rfl rfl rfl (Nat.le_of_ble_eq_true rfl) rfl d2_doEvents_134 ?_
                  refine x_aload_n h (pc' := 138) rfl d2_doEvents_137 4 rfl rfl ?_
                  refine x_iconst (v := (nI 1)) h (pc' := 139) rfl d2_doEvents_138 (by decide) ?_
                  refine x_put (w' := (wX A cI cZ cS fk0 fv0 fr0 fd0 (nI n0) fk3 fv3 fr3 fd3 (nI n3) fk1 fv1 fr1 fd1 (nI n1) fk2 fv2 fr2 fd2 (nI n2) ft fu iu (nI 1) (bi (decide (nI (5 * nn + 2) ≤ ct))) (bi (decide (nI (5 * nn + 3) ≤ ct))) (-1) (ev + ct) fe)) (ty := .boolean) h (pc' := 142) rfl (fun c q => List.mem_cons_of_mem _ (in2 c q)) ok2 nm2 0 5 rfl rfl (by decide) (List.mem_cons_of_mem _ lk2_38) rfl rfl rfl rfl rfl (Nat.le_of_ble_eq_true rfl) rfl d2_doEvents_139 ?_
                  refine x_bipush (v := (-2)) h (pc' := 144) rfl d2_doEvents_142 (by decide) ?_
                  exact hret _ _ _ _ d2_doEvents_144 rfl (Or.inr ⟨c13, Int32.not_le.mp c21, rfl, by first | rw [if_pos (Int32.not_lt.mp c62)] | rw [if_neg (Int32.not_le.mpr c62)]⟩)
                · skip
                  refine x_iconst (v := (nI 1)) h (pc' := 125) rfl d2_doEvents_124 (by decide) ?_
                  refine x_goto (pc' := 129) h d2_doEvents_125 (by decide) ?_
                  refine x_top (y := (bi (decide (nI (5 * nn + 3) ≤ ct)))) (bi1 (decide_eq_true (Int32.not_lt.mp c121))) ?_
                  refine x_put (w' := (wX A cI cZ cS fk0 fv0 fr0 fd0 (nI n0) fk3 fv3 fr3 fd3 (nI n3) fk1 fv1 fr1 fd1 (nI n1) fk2 fv2 fr2 fd2 (nI n2) ft fu iu dn (bi (decide (nI (5 * nn + 2) ≤ ct))) (bi (decide (nI (5 * nn + 3) ≤ ct))) ct (ev + ct) fe)) (ty := .boolean) h (pc' := 132) rfl (fun c q => List.mem_cons_of_mem _ (in2 c q)) ok2 nm2 0 7 rfl rfl (by decide) (List.mem_cons_of_mem _ lk2_97) rfl rfl rfl (bi_nar _) (bi_fits _) (Nat.le_of_ble_eq_true rfl) rfl d2_doEvents_129 ?_
                  refine x_aload_n h (pc' := 133) rfl d2_doEvents_132 4 rfl rfl ?_
                  refine x_iconst (v := (-1)) h (pc' := 134) rfl d2_doEvents_133 (by decide) ?_
                  refine x_put (w' := (wX A cI cZ cS fk0 fv0 fr0 fd0 (nI n0) fk3 fv3 fr3 fd3 (nI n3) fk1 fv1 fr1 fd1 (nI n1) fk2 fv2 fr2 fd2 (nI n2) ft fu iu dn (bi (decide (nI (5 * nn + 2) ≤ ct))) (bi (decide (nI (5 * nn + 3) ≤ ct))) (-1) (ev + ct) fe)) (ty := .int) h (pc' := 137) rfl (fun c q => List.mem_cons_of_mem _ (in2 c q)) ok2 nm2 0 8 rfl rfl (by decide) (List.mem_cons_of_mem _ lk2_34) rfl rfl rfl rfl rfl (Nat.le_of_ble_eq_true rfl) rfl d2_doEvents_134 ?_
                  refine x_aload_n h (pc' := 138) rfl d2_doEvents_137 4 rfl rfl ?_
                  refine x_iconst (v := (nI 1)) h (pc' := 139) rfl d2_doEvents_138 (by decide) ?_
                  refine x_put (w' := (wX A cI cZ cS fk0 fv0 fr0 fd0 (nI n0) fk3 fv3 fr3 fd3 (nI n3) fk1 fv1 fr1 fd1 (nI n1) fk2 fv2 fr2 fd2 (nI n2) ft fu iu (nI 1) (bi (decide (nI (5 * nn + 2) ≤ ct))) (bi (decide (nI (5 * nn + 3) ≤ ct))) (-1) (ev + ct) fe)) (ty := .boolean) h (pc' := 142) rfl (fun c q => List.mem_cons_of_mem _ (in2 c q)) ok2 nm2 0 5 rfl rfl (by decide) (List.mem_cons_of_mem _ lk2_38) rfl rfl rfl rfl rfl (Nat.le_of_ble_eq_true rfl) rfl d2_doEvents_139 ?_
                  refine x_bipush (v := (-2)) h (pc' := 144) rfl d2_doEvents_142 (by decide) ?_
                  exact hret _ _ _ _ d2_doEvents_144 rfl (Or.inr ⟨c13, Int32.not_le.mp c21, rfl, by first | rw [if_pos (Int32.not_lt.mp c62)] | rw [if_neg (Int32.not_le.mpr c62)]⟩)
          · skip
            exact absurd (Int32.not_le.mp c21) c80
        · skip
          refine x_aload_n h (pc' := 66) rfl d2_doEvents_65 4 rfl rfl ?_
          refine x_dup h (pc' := 67) rfl d2_doEvents_66 rfl ?_
          refine x_get h (pc' := 70) rfl (fun c q => List.mem_cons_of_mem _ (in2 c q)) 0 10 rfl rfl (by decide) (List.mem_cons_of_mem _ lk2_106) rfl rfl d2_doEvents_67 ?_
          refine x_iconst (v := (nI 1)) h (pc' := 71) rfl d2_doEvents_70 (by decide) ?_
          refine x_iadd (z := (fe + (nI 1))) h (pc' := 72) rfl d2_doEvents_71 rfl ?_
          refine x_put (w' := (wX A cI cZ cS fk0 fv0 fr0 fd0 (nI n0) fk3 fv3 fr3 fd3 (nI n3) fk1 fv1 fr1 fd1 (nI n1) fk2 fv2 fr2 fd2 (nI n2) ft fu iu dn rs rf ct (ev + ct) (fe + (nI 1)))) (ty := .int) h (pc' := 75) rfl (fun c q => List.mem_cons_of_mem _ (in2 c q)) ok2 nm2 0 10 rfl rfl (by decide) (List.mem_cons_of_mem _ lk2_106) rfl rfl rfl rfl rfl (Nat.le_of_ble_eq_true rfl) rfl d2_doEvents_72 ?_
          refine x_iload h (pc' := 77) rfl d2_doEvents_75 0 rfl ?_
          refine x_iload_n h (pc' := 78) rfl d2_doEvents_77 3 rfl rfl ?_
          refine x_iconst (v := (nI 4)) h (pc' := 79) rfl d2_doEvents_78 (by decide) ?_
          refine x_iadd (z := (nI ((5 * nn) + 4))) h (pc' := 80) rfl d2_doEvents_79 (nI_add (5 * nn) 4) ?_
          refine x_icmp_lt (tg := 93) h (pc' := 83) rfl d2_doEvents_80 (by decide) Iff.rfl (fun c80 => ?_) (fun c80 => ?_)
          · skip
            refine x_iload h (pc' := 95) rfl d2_doEvents_93 1 rfl ?_
            refine x_if_eq (tg := 145) h (pc' := 98) rfl d2_doEvents_95 (by decide) (bi_0 _) (fun c95 => ?_) (fun c95 => ?_)
            · skip
              cases c95
            · skip
              refine x_aload_n h (pc' := 99) rfl d2_doEvents_98 4 rfl rfl ?_
              refine x_iload h (pc' := 101) rfl d2_doEvents_99 0 rfl ?_
              refine x_iload_n h (pc' := 102) rfl d2_doEvents_101 3 rfl rfl ?_
              refine x_iconst (v := (nI 2)) h (pc' := 103) rfl d2_doEvents_102 (by decide) ?_
              refine x_iadd (z := (nI ((5 * nn) + 2))) h (pc' := 104) rfl d2_doEvents_103 (nI_add (5 * nn) 2) ?_
              refine x_icmp_lt (tg := 111) h (pc' := 107) rfl d2_doEvents_104 (by decide) Iff.rfl (fun c104 => ?_) (fun c104 => ?_)
              · skip
                refine x_iconst (v := (nI 0)) h (pc' := 112) rfl d2_doEvents_111 (by decide) ?_
                refine x_top (y := (bi (decide (nI (5 * nn + 2) ≤ ct)))) (bi0 (decide_eq_false (Int32.not_le.mpr c104))) ?_
                refine x_put (w' := (wX A cI cZ cS fk0 fv0 fr0 fd0 (nI n0) fk3 fv3 fr3 fd3 (nI n3) fk1 fv1 fr1 fd1 (nI n1) fk2 fv2 fr2 fd2 (nI n2) ft fu iu dn (bi (decide (nI (5 * nn + 2) ≤ ct))) rf ct (ev + ct) (fe + (nI 1)))) (ty := .boolean) h (pc' := 115) rfl (fun c q => List.mem_cons_of_mem _ (in2 c q)) ok2 nm2 0 6 rfl rfl (by decide) (List.mem_cons_of_mem _ lk2_100) rfl rfl rfl (bi_nar _) (bi_fits _) (Nat.le_of_ble_eq_true rfl) rfl d2_doEvents_112 ?_
                refine x_aload_n h (pc' := 116) rfl d2_doEvents_115 4 rfl rfl ?_
                refine x_iload h (pc' := 118) rfl d2_doEvents_116 0 rfl ?_
                refine x_iload_n h (pc' := 119) rfl d2_doEvents_118 3 rfl rfl ?_
                refine x_iconst (v := (nI 3)) h (pc' := 120) rfl d2_doEvents_119 (by decide) ?_
                refine x_iadd (z := (nI ((5 * nn) + 3))) h (pc' := 121) rfl d2_doEvents_120 (nI_add (5 * nn) 3) ?_
                refine x_icmp_lt (tg := 128) h (pc' := 124) rfl d2_doEvents_121 (by decide) Iff.rfl (fun c121 => ?_) (fun c121 => ?_)
                · skip
                  refine x_iconst (v := (nI 0)) h (pc' := 129) rfl d2_doEvents_128 (by decide) ?_
                  refine x_top (y := (bi (decide (nI (5 * nn + 3) ≤ ct)))) (bi0 (decide_eq_false (Int32.not_le.mpr c121))) ?_
                  refine x_put (w' := (wX A cI cZ cS fk0 fv0 fr0 fd0 (nI n0) fk3 fv3 fr3 fd3 (nI n3) fk1 fv1 fr1 fd1 (nI n1) fk2 fv2 fr2 fd2 (nI n2) ft fu iu dn (bi (decide (nI (5 * nn + 2) ≤ ct))) (bi (decide (nI (5 * nn + 3) ≤ ct))) ct (ev + ct) (fe + (nI 1)))) (ty := .boolean) h (pc' := 132) rfl (fun c q => List.mem_cons_of_mem _ (in2 c q)) ok2 nm2 0 7 rfl rfl (by decide) (List.mem_cons_of_mem _ lk2_97) rfl rfl rfl (bi_nar _) (bi_fits _) (Nat.le_of_ble_eq_true rfl) rfl d2_doEvents_129 ?_
                  refine x_aload_n h (pc' := 133) rfl d2_doEvents_132 4 rfl rfl ?_
                  refine x_iconst (v := (-1)) h (pc' := 134) rfl d2_doEvents_133 (by decide) ?_
                  refine x_put (w' := (wX A cI cZ cS fk0 fv0 fr0 fd0 (nI n0) fk3 fv3 fr3 fd3 (nI n3) fk1 fv1 fr1 fd1 (nI n1) fk2 fv2 fr2 fd2 (nI n2) ft fu iu dn (bi (decide (nI (5 * nn + 2) ≤ ct))) (bi (decide (nI (5 * nn + 3) ≤ ct))) (-1) (ev + ct) (fe + (nI 1)))) (ty := .int) h (pc' := 137) rfl (fun c q => List.mem_cons_of_mem _ (in2 c q)) ok2 nm2 0 8 rfl rfl (by decide) (List.mem_cons_of_mem _ lk2_34) rfl rfl rfl rfl rfl (Nat.le_of_ble_eq_true rfl) rfl d2_doEvents_134 ?_
                  refine x_aload_n h (pc' := 138) rfl d2_doEvents_137 4 rfl rfl ?_
                  refine x_iconst (v := (nI 1)) h (pc' := 139) rfl d2_doEvents_138 (by decide) ?_
                  refine x_put (w' := (wX A cI cZ cS fk0 fv0 fr0 fd0 (nI n0) fk3 fv3 fr3 fd3 (nI n3) fk1 fv1 fr1 fd1 (nI n1) fk2 fv2 fr2 fd2 (nI n2) ft fu iu (nI 1) (bi (decide (nI (5 * nn + 2) ≤ ct))) (bi (decide (nI (5 * nn + 3) ≤ ct))) (-1) (ev + ct) (fe + (nI 1)))) (ty := .boolean) h (pc' := 142) rfl (fun c q => List.mem_cons_of_mem _ (in2 c q)) ok2 nm2 0 5 rfl rfl (by decide) (List.mem_cons_of_mem _ lk2_38) rfl rfl rfl rfl rfl (Nat.le_of_ble_eq_true rfl) rfl d2_doEvents_139 ?_
                  refine x_bipush (v := (-2)) h (pc' := 144) rfl d2_doEvents_142 (by decide) ?_
                  exact hret _ _ _ _ d2_doEvents_144 rfl (Or.inr ⟨c13, Int32.not_le.mp c21, rfl, by first | rw [if_pos (Int32.not_lt.mp c62)] | rw [if_neg (Int32.not_le.mpr c62)]⟩)
                · skip
                  refine x_iconst (v := (nI 1)) h (pc' := 125) rfl d2_doEvents_124 (by decide) ?_
                  refine x_goto (pc' := 129) h d2_doEvents_125 (by decide) ?_
                  refine x_top (y := (bi (decide (nI (5 * nn + 3) ≤ ct)))) (bi1 (decide_eq_true (Int32.not_lt.mp c121))) ?_
                  refine x_put (w' := (wX A cI cZ cS fk0 fv0 fr0 fd0 (nI n0) fk3 fv3 fr3 fd3 (nI n3) fk1 fv1 fr1 fd1 (nI n1) fk2 fv2 fr2 fd2 (nI n2) ft fu iu dn (bi (decide (nI (5 * nn + 2) ≤ ct))) (bi (decide (nI (5 * nn + 3) ≤ ct))) ct (ev + ct) (fe + (nI 1)))) (ty := .boolean) h (pc' := 132) rfl (fun c q => List.mem_cons_of_mem _ (in2 c q)) ok2 nm2 0 7 rfl rfl (by decide) (List.mem_cons_of_mem _ lk2_97) rfl rfl rfl (bi_nar _) (bi_fits _) (Nat.le_of_ble_eq_true rfl) rfl d2_doEvents_129 ?_
                  refine x_aload_n h (pc' := 133) rfl d2_doEvents_132 4 rfl rfl ?_
                  refine x_iconst (v := (-1)) h (pc' := 134) rfl d2_doEvents_133 (by decide) ?_
                  refine x_put (w' := (wX A cI cZ cS fk0 fv0 fr0 fd0 (nI n0) fk3 fv3 fr3 fd3 (nI n3) fk1 fv1 fr1 fd1 (nI n1) fk2 fv2 fr2 fd2 (nI n2) ft fu iu dn (bi (decide (nI (5 * nn + 2) ≤ ct))) (bi (decide (nI (5 * nn + 3) ≤ ct))) (-1) (ev + ct) (fe + (nI 1)))) (ty := .int) h (pc' := 137) rfl (fun c q => List.mem_cons_of_mem _ (in2 c q)) ok2 nm2 0 8 rfl rfl (by decide) (List.mem_cons_of_mem _ lk2_34) rfl rfl rfl rfl rfl (Nat.le_of_ble_eq_true rfl) rfl d2_doEvents_134 ?_
                  refine x_aload_n h (pc' := 138) rfl d2_doEvents_137 4 rfl rfl ?_
                  refine x_iconst (v := (nI 1)) h (pc' := 139) rfl d2_doEvents_138 (by decide) ?_
                  refine x_put (w' := (wX A cI cZ cS fk0 fv0 fr0 fd0 (nI n0) fk3 fv3 fr3 fd3 (nI n3) fk1 fv1 fr1 fd1 (nI n1) fk2 fv2 fr2 fd2 (nI n2) ft fu iu (nI 1) (bi (decide (nI (5 * nn + 2) ≤ ct))) (bi (decide (nI (5 * nn + 3) ≤ ct))) (-1) (ev + ct) (fe + (nI 1)))) (ty := .boolean) h (pc' := 142) rfl (fun c q => List.mem_cons_of_mem _ (in2 c q)) ok2 nm2 0 5 rfl rfl (by decide) (List.mem_cons_of_mem _ lk2_38) rfl rfl rfl rfl rfl (Nat.le_of_ble_eq_true rfl) rfl d2_doEvents_139 ?_
                  refine x_bipush (v := (-2)) h (pc' := 144) rfl d2_doEvents_142 (by decide) ?_
                  exact hret _ _ _ _ d2_doEvents_144 rfl (Or.inr ⟨c13, Int32.not_le.mp c21, rfl, by first | rw [if_pos (Int32.not_lt.mp c62)] | rw [if_neg (Int32.not_le.mpr c62)]⟩)
              · skip
                refine x_iconst (v := (nI 1)) h (pc' := 108) rfl d2_doEvents_107 (by decide) ?_
                refine x_goto (pc' := 112) h d2_doEvents_108 (by decide) ?_
                refine x_top (y := (bi (decide (nI (5 * nn + 2) ≤ ct)))) (bi1 (decide_eq_true (Int32.not_lt.mp c104))) ?_
                refine x_put (w' := (wX A cI cZ cS fk0 fv0 fr0 fd0 (nI n0) fk3 fv3 fr3 fd3 (nI n3) fk1 fv1 fr1 fd1 (nI n1) fk2 fv2 fr2 fd2 (nI n2) ft fu iu dn (bi (decide (nI (5 * nn + 2) ≤ ct))) rf ct (ev + ct) (fe + (nI 1)))) (ty := .boolean) h (pc' := 115) rfl (fun c q => List.mem_cons_of_mem _ (in2 c q)) ok2 nm2 0 6 rfl rfl (by decide) (List.mem_cons_of_mem _ lk2_100) rfl rfl rfl (bi_nar _) (bi_fits _) (Nat.le_of_ble_eq_true rfl) rfl d2_doEvents_112 ?_
                refine x_aload_n h (pc' := 116) rfl d2_doEvents_115 4 rfl rfl ?_
                refine x_iload h (pc' := 118) rfl d2_doEvents_116 0 rfl ?_
                refine x_iload_n h (pc' := 119) rfl d2_doEvents_118 3 rfl rfl ?_
                refine x_iconst (v := (nI 3)) h (pc' := 120) rfl d2_doEvents_119 (by decide) ?_
                refine x_iadd (z := (nI ((5 * nn) + 3))) h (pc' := 121) rfl d2_doEvents_120 (nI_add (5 * nn) 3) ?_
                refine x_icmp_lt (tg := 128) h (pc' := 124) rfl d2_doEvents_121 (by decide) Iff.rfl (fun c121 => ?_) (fun c121 => ?_)
                · skip
                  refine x_iconst (v := (nI 0)) h (pc' := 129) rfl d2_doEvents_128 (by decide) ?_
                  refine x_top (y := (bi (decide (nI (5 * nn + 3) ≤ ct)))) (bi0 (decide_eq_false (Int32.not_le.mpr c121))) ?_
                  refine x_put (w' := (wX A cI cZ cS fk0 fv0 fr0 fd0 (nI n0) fk3 fv3 fr3 fd3 (nI n3) fk1 fv1 fr1 fd1 (nI n1) fk2 fv2 fr2 fd2 (nI n2) ft fu iu dn (bi (decide (nI (5 * nn + 2) ≤ ct))) (bi (decide (nI (5 * nn + 3) ≤ ct))) ct (ev + ct) (fe + (nI 1)))) (ty := .boolean) h (pc' := 132) rfl (fun c q => List.mem_cons_of_mem _ (in2 c q)) ok2 nm2 0 7 rfl rfl (by decide) (List.mem_cons_of_mem _ lk2_97) rfl rfl rfl (bi_nar _) (bi_fits _) (Nat.le_of_ble_eq_true rfl) rfl d2_doEvents_129 ?_
                  refine x_aload_n h (pc' := 133) rfl d2_doEvents_132 4 rfl rfl ?_
                  refine x_iconst (v := (-1)) h (pc' := 134) rfl d2_doEvents_133 (by decide) ?_
                  refine x_put (w' := (wX A cI cZ cS fk0 fv0 fr0 fd0 (nI n0) fk3 fv3 fr3 fd3 (nI n3) fk1 fv1 fr1 fd1 (nI n1) fk2 fv2 fr2 fd2 (nI n2) ft fu iu dn (bi (decide (nI (5 * nn + 2) ≤ ct))) (bi (decide (nI (5 * nn + 3) ≤ ct))) (-1) (ev + ct) (fe + (nI 1)))) (ty := .int) h (pc' := 137) rfl (fun c q => List.mem_cons_of_mem _ (in2 c q)) ok2 nm2 0 8 rfl rfl (by decide) (List.mem_cons_of_mem _ lk2_34) rfl rfl rfl rfl rfl (Nat.le_of_ble_eq_true rfl) rfl d2_doEvents_134 ?_
                  refine x_aload_n h (pc' := 138) rfl d2_doEvents_137 4 rfl rfl ?_
                  refine x_iconst (v := (nI 1)) h (pc' := 139) rfl d2_doEvents_138 (by decide) ?_
                  refine x_put (w' := (wX A cI cZ cS fk0 fv0 fr0 fd0 (nI n0) fk3 fv3 fr3 fd3 (nI n3) fk1 fv1 fr1 fd1 (nI n1) fk2 fv2 fr2 fd2 (nI n2) ft fu iu (nI 1) (bi (decide (nI (5 * nn + 2) ≤ ct))) (bi (decide (nI (5 * nn + 3) ≤ ct))) (-1) (ev + ct) (fe + (nI 1)))) (ty := .boolean) h (pc' := 142) rfl (fun c q => List.mem_cons_of_mem _ (in2 c q)) ok2 nm2 0 5 rfl rfl (by decide) (List.mem_cons_of_mem _ lk2_38) rfl rfl rfl rfl rfl (Nat.le_of_ble_eq_true rfl) rfl d2_doEvents_139 ?_
                  refine x_bipush (v := (-2)) h (pc' := 144) rfl d2_doEvents_142 (by decide) ?_
                  exact hret _ _ _ _ d2_doEvents_144 rfl (Or.inr ⟨c13, Int32.not_le.mp c21, rfl, by first | rw [if_pos (Int32.not_lt.mp c62)] | rw [if_neg (Int32.not_le.mpr c62)]⟩)
                · skip
                  refine x_iconst (v := (nI 1)) h (pc' := 125) rfl d2_doEvents_124 (by decide) ?_
                  refine x_goto (pc' := 129) h d2_doEvents_125 (by decide) ?_
                  refine x_top (y := (bi (decide (nI (5 * nn + 3) ≤ ct)))) (bi1 (decide_eq_true (Int32.not_lt.mp c121))) ?_
                  refine x_put (w' := (wX A cI cZ cS fk0 fv0 fr0 fd0 (nI n0) fk3 fv3 fr3 fd3 (nI n3) fk1 fv1 fr1 fd1 (nI n1) fk2 fv2 fr2 fd2 (nI n2) ft fu iu dn (bi (decide (nI (5 * nn + 2) ≤ ct))) (bi (decide (nI (5 * nn + 3) ≤ ct))) ct (ev + ct) (fe + (nI 1)))) (ty := .boolean) h (pc' := 132) rfl (fun c q => List.mem_cons_of_mem _ (in2 c q)) ok2 nm2 0 7 rfl rfl (by decide) (List.mem_cons_of_mem _ lk2_97) rfl rfl rfl (bi_nar _) (bi_fits _) (Nat.le_of_ble_eq_true rfl) rfl d2_doEvents_129 ?_
                  refine x_aload_n h (pc' := 133) rfl d2_doEvents_132 4 rfl rfl ?_
                  refine x_iconst (v := (-1)) h (pc' := 134) rfl d2_doEvents_133 (by decide) ?_
                  refine x_put (w' := (wX A cI cZ cS fk0 fv0 fr0 fd0 (nI n0) fk3 fv3 fr3 fd3 (nI n3) fk1 fv1 fr1 fd1 (nI n1) fk2 fv2 fr2 fd2 (nI n2) ft fu iu dn (bi (decide (nI (5 * nn + 2) ≤ ct))) (bi (decide (nI (5 * nn + 3) ≤ ct))) (-1) (ev + ct) (fe + (nI 1)))) (ty := .int) h (pc' := 137) rfl (fun c q => List.mem_cons_of_mem _ (in2 c q)) ok2 nm2 0 8 rfl rfl (by decide) (List.mem_cons_of_mem _ lk2_34) rfl rfl rfl rfl rfl (Nat.le_of_ble_eq_true rfl) rfl d2_doEvents_134 ?_
                  refine x_aload_n h (pc' := 138) rfl d2_doEvents_137 4 rfl rfl ?_
                  refine x_iconst (v := (nI 1)) h (pc' := 139) rfl d2_doEvents_138 (by decide) ?_
                  refine x_put (w' := (wX A cI cZ cS fk0 fv0 fr0 fd0 (nI n0) fk3 fv3 fr3 fd3 (nI n3) fk1 fv1 fr1 fd1 (nI n1) fk2 fv2 fr2 fd2 (nI n2) ft fu iu (nI 1) (bi (decide (nI (5 * nn + 2) ≤ ct))) (bi (decide (nI (5 * nn + 3) ≤ ct))) (-1) (ev + ct) (fe + (nI 1)))) (ty := .boolean) h (pc' := 142) rfl (fun c q => List.mem_cons_of_mem _ (in2 c q)) ok2 nm2 0 5 rfl rfl (by decide) (List.mem_cons_of_mem _ lk2_38) rfl rfl rfl rfl rfl (Nat.le_of_ble_eq_true rfl) rfl d2_doEvents_139 ?_
                  refine x_bipush (v := (-2)) h (pc' := 144) rfl d2_doEvents_142 (by decide) ?_
                  exact hret _ _ _ _ d2_doEvents_144 rfl (Or.inr ⟨c13, Int32.not_le.mp c21, rfl, by first | rw [if_pos (Int32.not_lt.mp c62)] | rw [if_neg (Int32.not_le.mpr c62)]⟩)
          · skip
            exact absurd (Int32.not_le.mp c21) c80
/-- what changeToDraft does: refused, or its nodes given and its events done -/
def chC (A : Nat → Nat) (cI cZ cS : ClassId) (fk0 fv0 fr0 fd0 : Nat → Int32) (n0 : Nat) (fk3 fv3 fr3 fd3 : Nat → Int32) (n3 : Nat) (fk1 fv1 fr1 fd1 : Nat → Int32) (n1 : Nat) (fk2 fv2 fr2 fd2 : Nat → Int32) (n2 : Nat) (ft fu : Nat → Int32) (iu dn rs rf ct ev fe : Int32) (d0 d1 d2 : Nat → Nat) (t1 t2 : Bool) (r : Int32) (w' : va_W) : Prop :=
  (64 < cntF (U3 d0 d1 d2 n0 n1 n2 t1 t2) 64 + (nwC fk3 fv3 fr3 fk0 fv0 fr0 n3 n0 n3) ∧ r = -5 ∧ ∃ g : Nat → Int32, w' = (wX A cI cZ cS fk0 fv0 fr0 fd0 (nI n0) fk3 fv3 fr3 (keF fd3 fd0 (kpC fk3 fv3 fr3 fk0 fv0 fr0 n3 n0) (olC fk3 fk0 n0) n3) (nI n3) fk1 fv1 fr1 fd1 (nI n1) fk2 fv2 fr2 fd2 (nI n2) ft g (nI (cntF (U3 d0 d1 d2 n0 n1 n2 t1 t2) 64)) dn rs rf ct ev fe)) ∨ (cntF (U3 d0 d1 d2 n0 n1 n2 t1 t2) 64 + (nwC fk3 fv3 fr3 fk0 fv0 fr0 n3 n0 n3) ≤ 64 ∧ ∃ (gu fe3 : Nat → Int32) (ju : Int32), GVd (U3 d0 d1 d2 n0 n1 n2 t1 t2) (keF fd3 fd0 (kpC fk3 fv3 fr3 fk0 fv0 fr0 n3 n0) (olC fk3 fk0 n0) n3) n3 fe3 ∧ doC A cI cZ cS fk0 fv0 fr0 fd0 n0 fk3 fv3 fr3 fe3 n3 fk1 fv1 fr1 fd1 n1 fk2 fv2 fr2 fd2 n2 ft gu ju dn rs rf ct ev fe (nwC fk3 fv3 fr3 fk0 fv0 fr0 n3 n0 n3) r w')
set_option maxRecDepth 100000 in
set_option maxHeartbeats 4000000 in
theorem k2_changeToDraft (l : Launch) (D : va_G) (cI cZ cS : ClassId) (A : Nat → Nat) (fk0 fv0 fr0 fd0 : Nat → Int32) (n0 : Nat) (fk3 fv3 fr3 fd3 : Nat → Int32) (n3 : Nat) (fk1 fv1 fr1 fd1 : Nat → Int32) (n1 : Nat) (fk2 fv2 fr2 fd2 : Nat → Int32) (n2 : Nat) (ft fu : Nat → Int32) (iu : Int32) (dn rs rf ct ev fe : Int32) (h0 : n0 ≤ 30) (h3 : n3 ≤ 30) (h1 : n1 ≤ 30) (h2 : n2 ≤ 30) (t1 t2 : Bool) (u1 : ft 0 = bi t1) (u2 : ft 1 = bi t2) (d0 d1 d2 : Nat → Nat) (hd0 : isD fd0 d0 n0) (hd1 : t1 = true → isD fd1 d1 n1) (hd2 : t2 = true → isD fd2 d2 n2) (hK0 : inc fk0 n0) : CI l y2_changeToDraft w2_changeToDraft (rmd 4) D (TS3 cI cZ cS) [.ref (A 0)] (wX A cI cZ cS fk0 fv0 fr0 fd0 (nI n0) fk3 fv3 fr3 fd3 (nI n3) fk1 fv1 fr1 fd1 (nI n1) fk2 fv2 fr2 fd2 (nI n2) ft fu iu dn rs rf ct ev fe) (fun r w' => chC A cI cZ cS fk0 fv0 fr0 fd0 n0 fk3 fv3 fr3 fd3 n3 fk1 fv1 fr1 fd1 n1 fk2 fv2 fr2 fd2 n2 ft fu iu dn rs rf ct ev fe d0 d1 d2 t1 t2 r w') := by
  refine x_metI (lv := [(0, .ref (A 0))]) (by decide +kernel) rfl rfl (Nat.le_of_ble_eq_true rfl) rfl ?_
  intro X h hret
  have hN : (nwC fk3 fv3 fr3 fk0 fv0 fr0 n3 n0 n3) ≤ n3 := cntF_le _ _
  have hU := cntF_le (U3 d0 d1 d2 n0 n1 n2 t1 t2) 64
  have hC := keF_cnt (fk := fk3) (fv := fv3) (fr := fr3) (gk := fk0) (gv := fv0) (gr := fr0) (fd := fd3) (n := n3) hd0
  refine x_aload_n h (pc' := 1) rfl d2_changeToDraft_0 0 rfl rfl ?_
  refine x_get h (pc' := 4) rfl (fun c q => List.mem_cons_of_mem _ (in2 c q)) 0 1 rfl rfl (by decide) (List.mem_cons_of_mem _ lk2_16) rfl rfl d2_changeToDraft_1 ?_
  refine x_aload_n h (pc' := 5) rfl d2_changeToDraft_4 0 rfl rfl ?_
  refine x_get h (pc' := 8) rfl (fun c q => List.mem_cons_of_mem _ (in2 c q)) 0 0 rfl rfl (by decide) (List.mem_cons_of_mem _ lk2_10) rfl rfl d2_changeToDraft_5 ?_
  -- keepNodesOf
  refine x_vI h (pc' := 11) rfl [.ref (A 1)] (k1_keepNodesOf l D cI cZ cS (A 6) (A 7) (A 8) (A 9) (A 10) fk3 fv3 fr3 fd3 n3 h3 (A 1) (A 2) (A 3) (A 4) (A 5) fk0 fv0 fr0 fd0 n0 h0 hK0) d2_changeToDraft_8 1 (gd_V ml2_116 im1_keepNodesOf se1_keepNodesOf ini1 cd1_keepNodesOf) rfl ⟨rfl, rfl⟩ hd1_keepNodesOf ⟨by decide, by decide⟩ ⟨Nat.zero_le _, Nat.zero_le _⟩ 6 rfl rfl rfl [6, 7, 8, 9, 10, 1, 2, 3, 4, 5] rfl rfl rfl (Nat.le_of_ble_eq_true rfl) rfl (fun rr8 ww8 pp8 ee8 => ?_)
  obtain ⟨rfl, rfl⟩ := pp8
  refine x_w (w' := (wX A cI cZ cS fk0 fv0 fr0 fd0 (nI n0) fk3 fv3 fr3 (keF fd3 fd0 (kpC fk3 fv3 fr3 fk0 fv0 fr0 n3 n0) (olC fk3 fk0 n0) n3) (nI n3) fk1 fv1 fr1 fd1 (nI n1) fk2 fv2 fr2 fd2 (nI n2) ft fu iu dn rs rf ct ev fe)) rfl ?_
  refine x_istore_n (lv' := [(1, .int (nI (nwC fk3 fv3 fr3 fk0 fv0 fr0 n3 n0 n3))), (0, .ref (A 0))]) h (pc' := 12) rfl d2_changeToDraft_11 rfl (by decide) rfl ?_
  refine x_aload_n h (pc' := 13) rfl d2_changeToDraft_12 1 rfl rfl ?_
  -- findNodesInUse
  refine x_vV h (pc' := 16) rfl [] (k2_findNodesInUse l D cI cZ cS A fk0 fv0 fr0 fd0 n0 fk3 fv3 fr3 (keF fd3 fd0 (kpC fk3 fv3 fr3 fk0 fv0 fr0 n3 n0) (olC fk3 fk0 n0) n3) n3 fk1 fv1 fr1 fd1 n1 fk2 fv2 fr2 fd2 n2 ft fu iu dn rs rf ct ev fe h0 (by omega) h1 h2 t1 t2 u1 u2 d0 d1 d2 hd0 hd1 hd2) d2_changeToDraft_13 0 (gd_V ml2_85 im2_findNodesInUse se2_findNodesInUse ini2 cd2_findNodesInUse) rfl ⟨rfl, rfl⟩ hd2_findNodesInUse ⟨by decide, by decide⟩ ⟨Nat.zero_le _, Nat.zero_le _⟩ 0 rfl rfl rfl [0, 1, 2, 3, 4, 5, 6, 7, 8, 9, 10, 11, 12, 13, 14, 15, 16, 17, 18, 19, 20, 21, 22, 23, 24] nd25 (map25 rfl) rfl (Nat.le_of_ble_eq_true rfl) rfl (fun ww13 pp13 ee13 => ?_)
  obtain ⟨g, hg, rfl⟩ := pp13
  refine x_w (w' := (wX A cI cZ cS fk0 fv0 fr0 fd0 (nI n0) fk3 fv3 fr3 (keF fd3 fd0 (kpC fk3 fv3 fr3 fk0 fv0 fr0 n3 n0) (olC fk3 fk0 n0) n3) (nI n3) fk1 fv1 fr1 fd1 (nI n1) fk2 fv2 fr2 fd2 (nI n2) ft g (nI (cntF (U3 d0 d1 d2 n0 n1 n2 t1 t2) 64)) dn rs rf ct ev fe)) (putB25 _ rfl rfl) ?_
  refine x_aload_n h (pc' := 17) rfl d2_changeToDraft_16 1 rfl rfl ?_
  refine x_get h (pc' := 20) rfl (fun c q => List.mem_cons_of_mem _ (in2 c q)) 0 4 rfl rfl (by decide) (List.mem_cons_of_mem _ lk2_30) rfl rfl d2_changeToDraft_17 ?_
  refine x_get h (pc' := 23) rfl (fun c q => List.mem_cons_of_mem _ (in0 c q)) 23 1 rfl rfl (by decide) (List.mem_cons_of_mem _ lk2_88) rfl rfl d2_changeToDraft_20 ?_
  refine x_iload_n h (pc' := 24) rfl d2_changeToDraft_23 0 rfl rfl ?_
  refine x_iadd (z := (nI ((cntF (U3 d0 d1 d2 n0 n1 n2 t1 t2) 64) + (nwC fk3 fv3 fr3 fk0 fv0 fr0 n3 n0 n3)))) h (pc' := 25) rfl d2_changeToDraft_24 (nI_add (cntF (U3 d0 d1 d2 n0 n1 n2 t1 t2) 64) (nwC fk3 fv3 fr3 fk0 fv0 fr0 n3 n0 n3)) ?_
  refine x_bipush (v := (nI 64)) h (pc' := 27) rfl d2_changeToDraft_25 (by decide) ?_
  refine x_icmp_le (tg := 33) h (pc' := 30) rfl d2_changeToDraft_27 (by decide) (nI_leI (by omega) (by omega)) (fun c27 => ?_) (fun c27 => ?_)
  · skip
    refine x_aload_n h (pc' := 34) rfl d2_changeToDraft_33 1 rfl rfl ?_
    refine x_get h (pc' := 37) rfl (fun c q => List.mem_cons_of_mem _ (in2 c q)) 0 4 rfl rfl (by decide) (List.mem_cons_of_mem _ lk2_30) rfl rfl d2_changeToDraft_34 ?_
    refine x_aload_n h (pc' := 38) rfl d2_changeToDraft_37 1 rfl rfl ?_
    refine x_get h (pc' := 41) rfl (fun c q => List.mem_cons_of_mem _ (in2 c q)) 0 1 rfl rfl (by decide) (List.mem_cons_of_mem _ lk2_16) rfl rfl d2_changeToDraft_38 ?_
    -- giveNodesTo
    refine x_vV h (pc' := 44) rfl [.ref (A 6)] (k0_giveNodesTo l D cI cZ cS (A 23) (A 24) g (U3 d0 d1 d2 n0 n1 n2 t1 t2) hg (A 6) (A 7) (A 8) (A 9) (A 10) fk3 fv3 fr3 (keF fd3 fd0 (kpC fk3 fv3 fr3 fk0 fv0 fr0 n3 n0) (olC fk3 fk0 n0) n3) n3 h3 (by rw [hC]; omega)) d2_changeToDraft_41 1 (gd_V ml2_120 im0_giveNodesTo se0_giveNodesTo ini0 cd0_giveNodesTo) rfl ⟨rfl, rfl⟩ hd0_giveNodesTo ⟨by decide, by decide⟩ ⟨Nat.zero_le _, Nat.zero_le _⟩ 23 rfl rfl rfl [23, 24, 6, 7, 8, 9, 10] rfl rfl rfl (Nat.le_of_ble_eq_true rfl) rfl (fun ww41 pp41 ee41 => ?_)
    obtain ⟨gu, fe3, ju, hgv, rfl⟩ := pp41
    refine x_w (w' := (wX A cI cZ cS fk0 fv0 fr0 fd0 (nI n0) fk3 fv3 fr3 fe3 (nI n3) fk1 fv1 fr1 fd1 (nI n1) fk2 fv2 fr2 fd2 (nI n2) ft gu ju dn rs rf ct ev fe)) rfl ?_
    refine x_aload_n h (pc' := 45) rfl d2_changeToDraft_44 1 rfl rfl ?_
    refine x_iload_n h (pc' := 46) rfl d2_changeToDraft_45 0 rfl rfl ?_
    -- doEvents
    refine x_vI h (pc' := 49) rfl [.int (nI (nwC fk3 fv3 fr3 fk0 fv0 fr0 n3 n0 n3))] (k2_doEvents l D cI cZ cS A fk0 fv0 fr0 fd0 n0 fk3 fv3 fr3 fe3 n3 fk1 fv1 fr1 fd1 n1 fk2 fv2 fr2 fd2 n2 ft gu ju dn rs rf ct ev fe h0 h3 h1 h2 (nwC fk3 fv3 fr3 fk0 fv0 fr0 n3 n0 n3) (by omega)) d2_changeToDraft_46 1 (gd_V ml2_123 im2_doEvents se2_doEvents ini2 cd2_doEvents) rfl ⟨rfl, rfl⟩ hd2_doEvents ⟨by decide, by decide⟩ ⟨Nat.zero_le _, Nat.zero_le _⟩ 0 rfl rfl rfl [0, 1, 2, 3, 4, 5, 6, 7, 8, 9, 10, 11, 12, 13, 14, 15, 16, 17, 18, 19, 20, 21, 22, 23, 24] nd25 (map25 rfl) rfl (Nat.le_of_ble_eq_true rfl) rfl (fun rr46 ww46 pp46 ee46 => ?_)
    refine x_w (w' := ww46) (putB25 _ rfl (by simpa using congrArg List.length ee46)) ?_
    exact hret _ _ _ _ d2_changeToDraft_49 ee46 (Or.inr ⟨by omega, gu, fe3, ju, hgv, pp46⟩)
  · skip
    refine x_bipush (v := (-5)) h (pc' := 32) rfl d2_changeToDraft_30 (by decide) ?_
    exact hret _ _ _ _ d2_changeToDraft_32 rfl (Or.inl ⟨by omega, rfl, g, rfl⟩)
