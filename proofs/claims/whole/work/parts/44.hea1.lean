set_option maxRecDepth 100000 in
set_option maxHeartbeats 4000000 in
theorem k0_forgetAll (l : Launch) (D : va_G) (cI cZ cS : ClassId) (ho hu : Nat) (fu : Nat → Int32) (iu : Int32) : CV l y0_forgetAll w0_forgetAll (rmd 0) D (TS3 cI cZ cS) [.ref ho] (wH ho hu cZ fu iu) (fun w' => w' = (wH ho hu cZ (zerF fu 64) (nI 0))) := by
  refine x_metV (lv := [(0, .ref ho)]) (by decide +kernel) rfl rfl (Nat.le_of_ble_eq_true rfl) rfl ?_
  intro X h hret
  have lp : ∀ f k : Nat, k + f = 64 → WX X 0 0 2 [(1, .int (nI k)), (0, .ref ho)] (wH ho hu cZ (zerF fu k) iu) [] := by
    intro f
    induction f with
    | zero =>
      intro k hk
      obtain rfl : k = 64 := by omega
      refine x_iload_n h (pc' := 3) rfl d0_forgetAll_2 0 rfl rfl ?_
      refine x_bipush (v := (nI 64)) h (pc' := 5) rfl d0_forgetAll_3 (by decide) ?_
      refine x_icmp_ge (tg := 21) h (pc' := 8) rfl d0_forgetAll_5 (by decide) (nI_leI (by omega) (by omega)) (fun c5 => ?_) (fun c5 => ?_)
      · skip
        refine x_aload_n h (pc' := 22) rfl d0_forgetAll_21 1 rfl rfl ?_
        refine x_iconst (v := (nI 0)) h (pc' := 23) rfl d0_forgetAll_22 (by decide) ?_
        refine x_put (w' := (wH ho hu cZ (zerF fu 64) (nI 0))) (ty := .int) h (pc' := 26) rfl (fun c q => List.mem_cons_of_mem _ (in0 c q)) ok0 nm0 0 1 rfl rfl (by decide) (List.mem_cons_of_mem _ lk0_15) rfl rfl rfl rfl rfl (Nat.le_of_ble_eq_true rfl) rfl d0_forgetAll_23 ?_
        exact hret _ _ _ d0_forgetAll_26 rfl rfl
      · skip
        exact absurd c5 (by omega)
    | succ f ih =>
      intro k hk
      refine x_iload_n h (pc' := 3) rfl d0_forgetAll_2 0 rfl rfl ?_
      refine x_bipush (v := (nI 64)) h (pc' := 5) rfl d0_forgetAll_3 (by decide) ?_
      refine x_icmp_ge (tg := 21) h (pc' := 8) rfl d0_forgetAll_5 (by decide) (nI_leI (by omega) (by omega)) (fun c5 => ?_) (fun c5 => ?_)
      · skip
        exact absurd c5 (by omega)
      · skip
        refine x_aload_n h (pc' := 9) rfl d0_forgetAll_8 1 rfl rfl ?_
        refine x_get h (pc' := 12) rfl (fun c q => List.mem_cons_of_mem _ (in0 c q)) 0 0 rfl rfl (by decide) (List.mem_cons_of_mem _ lk0_9) rfl rfl d0_forgetAll_9 ?_
        refine x_iload_n h (pc' := 13) rfl d0_forgetAll_12 0 rfl rfl ?_
        refine x_iconst (v := (nI 0)) h (pc' := 14) rfl d0_forgetAll_13 (by decide) ?_
        refine x_zast (w' := (wH ho hu cZ (upd (zerF fu k) k (nI 0)) iu)) h (pc' := 15) rfl 1 1 rfl rfl (by omega) (by decide) d0_forgetAll_14 rfl rfl ?_
        refine x_iinc (lv' := [(1, .int (nI (k + 1))), (0, .ref ho)]) h (pc' := 18) rfl d0_forgetAll_15 0 rfl (n_inc k) (by decide) rfl ?_
        refine x_goto (pc' := 2) h d0_forgetAll_18 (by decide) ?_
        refine x_w (w' := (wH ho hu cZ (zerF fu (k + 1)) iu)) (by rw [zerF_s]) ?_
        exact ih (k + 1) (by omega)
  refine x_iconst (v := (nI 0)) h (pc' := 1) rfl d0_forgetAll_0 (by decide) ?_
  refine x_istore_n (lv' := [(1, .int (nI 0)), (0, .ref ho)]) h (pc' := 2) rfl d0_forgetAll_1 rfl (by decide) rfl ?_
  refine x_w (w' := (wH ho hu cZ (zerF fu 0) iu)) (by rw [zerF_0]) ?_
  exact lp 64 0 (by omega)
set_option maxRecDepth 100000 in
set_option maxHeartbeats 4000000 in
theorem k0_useNode (l : Launch) (D : va_G) (cI cZ cS : ClassId) (ho hu : Nat) (fu : Nat → Int32) (u : Nat → Bool) (hU : isU fu u) (d : Nat) (hd : d < 64) : CV l y0_useNode w0_useNode (rmd 0) D (TS3 cI cZ cS) [.ref ho, .int (nI d)] (wH ho hu cZ fu (nI (cntF u 64))) (fun w' => ∃ fu', isU fu' (setB u d) ∧ w' = (wH ho hu cZ fu' (nI (cntF (setB u d) 64)))) := by
  refine x_metV (lv := [(0, .ref ho), (1, .int (nI d))]) (by decide +kernel) rfl rfl (Nat.le_of_ble_eq_true rfl) rfl ?_
  intro X h hret
  have hc := cntF_le u 64
  refine x_iload_n h (pc' := 1) rfl d0_useNode_0 1 rfl rfl ?_
  refine x_if_lt (tg := 36) h (pc' := 4) rfl d0_useNode_1 (by decide) (n_lt0 (by omega)) (fun c1 => ?_) (fun c1 => ?_)
  · skip
    exact absurd c1 (by omega)
  · skip
    refine x_iload_n h (pc' := 5) rfl d0_useNode_4 1 rfl rfl ?_
    refine x_bipush (v := (nI 64)) h (pc' := 7) rfl d0_useNode_5 (by decide) ?_
    refine x_icmp_ge (tg := 36) h (pc' := 10) rfl d0_useNode_7 (by decide) (nI_leI (by omega) (by omega)) (fun c7 => ?_) (fun c7 => ?_)
    · skip
      exact absurd c7 (by omega)
    · skip
      refine x_aload_n h (pc' := 11) rfl d0_useNode_10 0 rfl rfl ?_
      refine x_get h (pc' := 14) rfl (fun c q => List.mem_cons_of_mem _ (in0 c q)) 0 0 rfl rfl (by decide) (List.mem_cons_of_mem _ lk0_9) rfl rfl d0_useNode_11 ?_
      refine x_iload_n h (pc' := 15) rfl d0_useNode_14 1 rfl rfl ?_
      refine x_zald (v := (bi (u d))) h (pc' := 16) rfl 1 1 rfl rfl (by omega) (by decide) d0_useNode_15 (hU d hd) ?_
      refine x_if_ne (tg := 36) h (pc' := 19) rfl d0_useNode_16 (by decide) (bi_0 _) (fun c16 => ?_) (fun c16 => ?_)
      · skip
        exact hret _ _ _ d0_useNode_36 rfl ⟨fu, by rw [setB_id (ne_f c16)]; exact hU, by rw [setB_id (ne_f c16)]⟩
      · skip
        refine x_aload_n h (pc' := 20) rfl d0_useNode_19 0 rfl rfl ?_
        refine x_get h (pc' := 23) rfl (fun c q => List.mem_cons_of_mem _ (in0 c q)) 0 0 rfl rfl (by decide) (List.mem_cons_of_mem _ lk0_9) rfl rfl d0_useNode_20 ?_
        refine x_iload_n h (pc' := 24) rfl d0_useNode_23 1 rfl rfl ?_
        refine x_iconst (v := (nI 1)) h (pc' := 25) rfl d0_useNode_24 (by decide) ?_
        refine x_zast (w' := (wH ho hu cZ (upd fu d (nI 1)) (nI (cntF u 64)))) h (pc' := 26) rfl 1 1 rfl rfl (by omega) (by decide) d0_useNode_25 rfl rfl ?_
        refine x_aload_n h (pc' := 27) rfl d0_useNode_26 0 rfl rfl ?_
        refine x_dup h (pc' := 28) rfl d0_useNode_27 rfl ?_
        refine x_get h (pc' := 31) rfl (fun c q => List.mem_cons_of_mem _ (in0 c q)) 0 1 rfl rfl (by decide) (List.mem_cons_of_mem _ lk0_15) rfl rfl d0_useNode_28 ?_
        refine x_iconst (v := (nI 1)) h (pc' := 32) rfl d0_useNode_31 (by decide) ?_
        refine x_iadd (z := (nI ((cntF u 64) + 1))) h (pc' := 33) rfl d0_useNode_32 (nI_add (cntF u 64) 1) ?_
        refine x_put (w' := (wH ho hu cZ (upd fu d (nI 1)) (nI ((cntF u 64) + 1)))) (ty := .int) h (pc' := 36) rfl (fun c q => List.mem_cons_of_mem _ (in0 c q)) ok0 nm0 0 1 rfl rfl (by decide) (List.mem_cons_of_mem _ lk0_15) rfl rfl rfl rfl rfl (Nat.le_of_ble_eq_true rfl) rfl d0_useNode_33 ?_
        exact hret _ _ _ d0_useNode_36 rfl ⟨_, isU_set hU, by rw [cntF_setB c16 64 hd]⟩
set_option maxRecDepth 100000 in
set_option maxHeartbeats 4000000 in
theorem k0_useNodesOf (l : Launch) (D : va_G) (cI cZ cS : ClassId) (ho hu : Nat) (fu : Nat → Int32) (u : Nat → Bool) (hU : isU fu u) (o b1 b2 b3 b4 : Nat) (fk fv fr fd : Nat → Int32) (n : Nat) (hn : n ≤ 30) (d : Nat → Nat) (hd : ∀ i, i < n → fd i = nI (d i) ∧ d i < 64) : CV l y0_useNodesOf w0_useNodesOf (rmd 1) D (TS3 cI cZ cS) [.ref ho, .ref o] ((wH ho hu cZ fu (nI (cntF u 64))) ++ (wS o b1 b2 b3 b4 cI fk fv fr fd (nI n))) (fun w' => ∃ fu', isU fu' (uniD u d n) ∧ w' = ((wH ho hu cZ fu' (nI (cntF (uniD u d n) 64))) ++ (wS o b1 b2 b3 b4 cI fk fv fr fd (nI n)))) := by
  refine x_metV (lv := [(0, .ref ho), (1, .ref o)]) (by decide +kernel) rfl rfl (Nat.le_of_ble_eq_true rfl) rfl ?_
  intro X h hret
  have lp : ∀ f k : Nat, k + f = n → ∀ g : Nat → Int32, isU g (uniD u d k) → WX X 0 0 2 [(2, .int (nI k)), (0, .ref ho), (1, .ref o)] ((wH ho hu cZ g (nI (cntF (uniD u d k) 64))) ++ (wS o b1 b2 b3 b4 cI fk fv fr fd (nI n))) [] := by
    intro f
    induction f with
    | zero =>
      intro k hk g hg
      obtain rfl : k = n := by omega
      refine x_iload_n h (pc' := 3) rfl d0_useNodesOf_2 0 rfl rfl ?_
      refine x_aload_n h (pc' := 4) rfl d0_useNodesOf_3 2 rfl rfl ?_
      refine x_get h (pc' := 7) rfl (fun c q => List.mem_cons_of_mem _ (in1 c q)) 2 4 rfl rfl (by decide) (List.mem_cons_of_mem _ lk0_19) rfl rfl d0_useNodesOf_4 ?_
      refine x_icmp_ge (tg := 26) h (pc' := 10) rfl d0_useNodesOf_7 (by decide) (nI_leI (by omega) (by omega)) (fun c7 => ?_) (fun c7 => ?_)
      · skip
        exact hret _ _ _ d0_useNodesOf_26 rfl ⟨g, hg, rfl⟩
      · skip
        exact absurd c7 (by omega)
    | succ f ih =>
      intro k hk g hg
      refine x_iload_n h (pc' := 3) rfl d0_useNodesOf_2 0 rfl rfl ?_
      refine x_aload_n h (pc' := 4) rfl d0_useNodesOf_3 2 rfl rfl ?_
      refine x_get h (pc' := 7) rfl (fun c q => List.mem_cons_of_mem _ (in1 c q)) 2 4 rfl rfl (by decide) (List.mem_cons_of_mem _ lk0_19) rfl rfl d0_useNodesOf_4 ?_
      refine x_icmp_ge (tg := 26) h (pc' := 10) rfl d0_useNodesOf_7 (by decide) (nI_leI (by omega) (by omega)) (fun c7 => ?_) (fun c7 => ?_)
      · skip
        exact absurd c7 (by omega)
      · skip
        refine x_aload_n h (pc' := 11) rfl d0_useNodesOf_10 1 rfl rfl ?_
        refine x_aload_n h (pc' := 12) rfl d0_useNodesOf_11 2 rfl rfl ?_
        refine x_get h (pc' := 15) rfl (fun c q => List.mem_cons_of_mem _ (in1 c q)) 2 3 rfl rfl (by decide) (List.mem_cons_of_mem _ lk0_24) rfl rfl d0_useNodesOf_12 ?_
        refine x_iload_n h (pc' := 16) rfl d0_useNodesOf_15 0 rfl rfl ?_
        refine x_iald (v := (nI (d k))) h (pc' := 17) rfl 6 0 rfl rfl (by omega) (by decide) d0_useNodesOf_16 (hd k (by omega)).1 ?_
        -- useNode
        refine x_vV h (pc' := 20) rfl [.int (nI (d k))] (k0_useNode l D cI cZ cS ho hu g (uniD u d k) hg (d k) (hd k (by omega)).2) d0_useNodesOf_17 1 (gd_V ml0_28 im0_useNode se0_useNode ini0 cd0_useNode) rfl ⟨rfl, rfl⟩ hd0_useNode ⟨by decide, by decide⟩ ⟨Nat.zero_le _, Nat.zero_le _⟩ 0 rfl rfl rfl [0, 1] rfl rfl rfl (Nat.le_of_ble_eq_true rfl) rfl (fun ww17 pp17 ee17 => ?_)
        obtain ⟨g2, hg2, rfl⟩ := pp17
        rw [← uniD_s] at hg2 ⊢
        refine x_w (w' := ((wH ho hu cZ g2 (nI (cntF (uniD u d (k + 1)) 64))) ++ (wS o b1 b2 b3 b4 cI fk fv fr fd (nI n)))) rfl ?_
        refine x_iinc (lv' := [(2, .int (nI (k + 1))), (0, .ref ho), (1, .ref o)]) h (pc' := 23) rfl d0_useNodesOf_20 0 rfl (n_inc k) (by decide) rfl ?_
        refine x_goto (pc' := 2) h d0_useNodesOf_23 (by decide) ?_
        exact ih (k + 1) (by omega) g2 hg2
  refine x_iconst (v := (nI 0)) h (pc' := 1) rfl d0_useNodesOf_0 (by decide) ?_
  refine x_istore_n (lv' := [(2, .int (nI 0)), (0, .ref ho), (1, .ref o)]) h (pc' := 2) rfl d0_useNodesOf_1 rfl (by decide) rfl ?_
  refine x_w (w' := ((wH ho hu cZ fu (nI (cntF (uniD u d 0) 64))) ++ (wS o b1 b2 b3 b4 cI fk fv fr fd (nI n)))) (by rw [uniD_0]) ?_
  exact lp n 0 (by omega) fu (by rw [uniD_0]; exact hU)
set_option maxRecDepth 100000 in
set_option maxHeartbeats 4000000 in
theorem k0_giveNodesTo (l : Launch) (D : va_G) (cI cZ cS : ClassId) (ho hu : Nat) (fu : Nat → Int32) (u : Nat → Bool) (hU : isU fu u) (o b1 b2 b3 b4 : Nat) (fk fv fr fd : Nat → Int32) (n : Nat) (hn : n ≤ 30) (hc : cntF u 64 + cntF (fun i => decide (fd i = -1)) n ≤ 64) : CV l y0_giveNodesTo w0_giveNodesTo (rmd 1) D (TS3 cI cZ cS) [.ref ho, .ref o] ((wH ho hu cZ fu (nI (cntF u 64))) ++ (wS o b1 b2 b3 b4 cI fk fv fr fd (nI n))) (fun w' => ∃ (fu' fe : Nat → Int32) (iu' : Int32), GVd u fd n fe ∧ w' = ((wH ho hu cZ fu' iu') ++ (wS o b1 b2 b3 b4 cI fk fv fr fe (nI n)))) := by
  refine x_metV (lv := [(0, .ref ho), (1, .ref o)]) (by decide +kernel) rfl rfl (Nat.le_of_ble_eq_true rfl) rfl ?_
  intro X h hret
  have lp : ∀ f k : Nat, k + f = n → ∀ (fq : Nat) (u2 : Nat → Bool) (g fe : Nat → Int32), fq < 64 → isU g u2 → GV u fd n k fq u2 fe → WX X 0 0 4 [(3, .int (nI k)), (2, .int (nI fq)), (0, .ref ho), (1, .ref o)] ((wH ho hu cZ g (nI (cntF u2 64))) ++ (wS o b1 b2 b3 b4 cI fk fv fr fe (nI n))) [] := by
    intro f
    induction f with
    | zero =>
      intro k hk fq u2 g fe hfq hg hG
      obtain rfl : k = n := by omega
      refine x_iload_n h (pc' := 5) rfl d0_giveNodesTo_4 0 rfl rfl ?_
      refine x_aload_n h (pc' := 6) rfl d0_giveNodesTo_5 3 rfl rfl ?_
      refine x_get h (pc' := 9) rfl (fun c q => List.mem_cons_of_mem _ (in1 c q)) 2 4 rfl rfl (by decide) (List.mem_cons_of_mem _ lk0_19) rfl rfl d0_giveNodesTo_6 ?_
      refine x_icmp_ge (tg := 61) h (pc' := 12) rfl d0_giveNodesTo_9 (by decide) (nI_leI (by omega) (by omega)) (fun c9 => ?_) (fun c9 => ?_)
      · skip
        exact hret _ _ _ d0_giveNodesTo_61 rfl ⟨g, fe, _, GV_end hG, rfl⟩
      · skip
        exact absurd c9 (by omega)
    | succ f ih =>
      intro k hk fq u2 g fe hfq hg hG
      have hfe : fe k = fd k := hG.2.2.2.1 k (Nat.le_refl k)
      have hcu := cntF_le u2 64
      have K : fd k = -1 → ∀ q : Nat, q < 64 → u2 q = false → (∀ j, j < q → u2 j = true) → WX X 0 0 43 [(3, .int (nI k)), (2, .int (nI q)), (0, .ref ho), (1, .ref o)] ((wH ho hu cZ g (nI (cntF u2 64))) ++ (wS o b1 b2 b3 b4 cI fk fv fr fe (nI n))) [] := by
        intro hm q hq hq0 hq1
        refine x_aload_n h (pc' := 44) rfl d0_giveNodesTo_43 3 rfl rfl ?_
        refine x_get h (pc' := 47) rfl (fun c q => List.mem_cons_of_mem _ (in1 c q)) 2 3 rfl rfl (by decide) (List.mem_cons_of_mem _ lk0_24) rfl rfl d0_giveNodesTo_44 ?_
        refine x_iload_n h (pc' := 48) rfl d0_giveNodesTo_47 0 rfl rfl ?_
        refine x_iload_n h (pc' := 49) rfl d0_giveNodesTo_48 1 rfl rfl ?_
        refine x_iast (w' := ((wH ho hu cZ g (nI (cntF u2 64))) ++ (wS o b1 b2 b3 b4 cI fk fv fr (upd fe k (nI q)) (nI n)))) h (pc' := 50) rfl 6 0 rfl rfl (by omega) (by decide) d0_giveNodesTo_49 rfl ?_
        refine x_aload_n h (pc' := 51) rfl d0_giveNodesTo_50 2 rfl rfl ?_
        refine x_iload_n h (pc' := 52) rfl d0_giveNodesTo_51 1 rfl rfl ?_
        -- useNode
        refine x_vV h (pc' := 55) rfl [.int (nI q)] (k0_useNode l D cI cZ cS ho hu g u2 hg q hq) d0_giveNodesTo_52 1 (gd_V ml0_28 im0_useNode se0_useNode ini0 cd0_useNode) rfl ⟨rfl, rfl⟩ hd0_useNode ⟨by decide, by decide⟩ ⟨Nat.zero_le _, Nat.zero_le _⟩ 0 rfl rfl rfl [0, 1] rfl rfl rfl (Nat.le_of_ble_eq_true rfl) rfl (fun ww52 pp52 ee52 => ?_)
        obtain ⟨g2, hg2, rfl⟩ := pp52
        refine x_w (w' := ((wH ho hu cZ g2 (nI (cntF (setB u2 q) 64))) ++ (wS o b1 b2 b3 b4 cI fk fv fr (upd fe k (nI q)) (nI n)))) rfl ?_
        refine x_iinc (lv' := [(3, .int (nI (k + 1))), (2, .int (nI q)), (0, .ref ho), (1, .ref o)]) h (pc' := 58) rfl d0_giveNodesTo_55 0 rfl (n_inc k) (by decide) rfl ?_
        refine x_goto (pc' := 4) h d0_giveNodesTo_58 (by decide) ?_
        exact ih (k + 1) (by omega) q (setB u2 q) g2 _ hq hg2 (GV_give hG hm hq hq0 hq1)
      have lp2 : fd k = -1 → ∀ f2 q : Nat, q + f2 = 63 → (∀ j, j < q → u2 j = true) → WX X 0 0 22 [(3, .int (nI k)), (2, .int (nI q)), (0, .ref ho), (1, .ref o)] ((wH ho hu cZ g (nI (cntF u2 64))) ++ (wS o b1 b2 b3 b4 cI fk fv fr fe (nI n))) [] := by
        intro hm f2
        induction f2 with
        | zero =>
          intro q hq hq1
          obtain ⟨j, hj, hj0⟩ := GV_free hG (by omega) hm
          have hjq : j = q := by
            rcases Nat.lt_or_ge j q with z | z
            · rw [hq1 j z] at hj0; cases hj0
            · omega
          subst hjq
          refine x_iload_n h (pc' := 23) rfl d0_giveNodesTo_22 1 rfl rfl ?_
          refine x_bipush (v := (nI 63)) h (pc' := 25) rfl d0_giveNodesTo_23 (by decide) ?_
          refine x_icmp_ge (tg := 43) h (pc' := 28) rfl d0_giveNodesTo_25 (by decide) (nI_leI (by omega) (by omega)) (fun c25 => ?_) (fun c25 => ?_)
          · skip
            exact K hm j (by omega) hj0 hq1
          · skip
            exact absurd c25 (by omega)
        | succ f2 ih2 =>
          intro q hq hq1
          refine x_iload_n h (pc' := 23) rfl d0_giveNodesTo_22 1 rfl rfl ?_
          refine x_bipush (v := (nI 63)) h (pc' := 25) rfl d0_giveNodesTo_23 (by decide) ?_
          refine x_icmp_ge (tg := 43) h (pc' := 28) rfl d0_giveNodesTo_25 (by decide) (nI_leI (by omega) (by omega)) (fun c25 => ?_) (fun c25 => ?_)
          · skip
            exact absurd c25 (by omega)
          · skip
            refine x_aload_n h (pc' := 29) rfl d0_giveNodesTo_28 2 rfl rfl ?_
            refine x_get h (pc' := 32) rfl (fun c q => List.mem_cons_of_mem _ (in0 c q)) 0 0 rfl rfl (by decide) (List.mem_cons_of_mem _ lk0_9) rfl rfl d0_giveNodesTo_29 ?_
            refine x_iload_n h (pc' := 33) rfl d0_giveNodesTo_32 1 rfl rfl ?_
            refine x_zald (v := (bi (u2 q))) h (pc' := 34) rfl 1 1 rfl rfl (by omega) (by decide) d0_giveNodesTo_33 (hg q (by omega)) ?_
            refine x_if_eq (tg := 43) h (pc' := 37) rfl d0_giveNodesTo_34 (by decide) (bi_0 _) (fun c34 => ?_) (fun c34 => ?_)
            · skip
              exact K hm q (by omega) c34 hq1
            · skip
              refine x_iinc (lv' := [(2, .int (nI (q + 1))), (3, .int (nI k)), (0, .ref ho), (1, .ref o)]) h (pc' := 40) rfl d0_giveNodesTo_37 1 rfl (n_inc q) (by decide) rfl ?_
              refine x_goto (pc' := 22) h d0_giveNodesTo_40 (by decide) ?_
              refine x_lv (lv' := [(3, .int (nI k)), (2, .int (nI (q + 1))), (0, .ref ho), (1, .ref o)]) [1, 0, 2, 3] rfl ?_
              refine ih2 (q + 1) (by omega) (fun j hj => ?_)
              by_cases e : j = q
              · subst e; exact ne_f c34
              · exact hq1 j (by omega)
      refine x_iload_n h (pc' := 5) rfl d0_giveNodesTo_4 0 rfl rfl ?_
      refine x_aload_n h (pc' := 6) rfl d0_giveNodesTo_5 3 rfl rfl ?_
      refine x_get h (pc' := 9) rfl (fun c q => List.mem_cons_of_mem _ (in1 c q)) 2 4 rfl rfl (by decide) (List.mem_cons_of_mem _ lk0_19) rfl rfl d0_giveNodesTo_6 ?_
      refine x_icmp_ge (tg := 61) h (pc' := 12) rfl d0_giveNodesTo_9 (by decide) (nI_leI (by omega) (by omega)) (fun c9 => ?_) (fun c9 => ?_)
      · skip
        exact absurd c9 (by omega)
      · skip
        refine x_aload_n h (pc' := 13) rfl d0_giveNodesTo_12 3 rfl rfl ?_
        refine x_get h (pc' := 16) rfl (fun c q => List.mem_cons_of_mem _ (in1 c q)) 2 3 rfl rfl (by decide) (List.mem_cons_of_mem _ lk0_24) rfl rfl d0_giveNodesTo_13 ?_
        refine x_iload_n h (pc' := 17) rfl d0_giveNodesTo_16 0 rfl rfl ?_
        refine x_iald (v := (fe k)) h (pc' := 18) rfl 6 0 rfl rfl (by omega) (by decide) d0_giveNodesTo_17 rfl ?_
        refine x_iconst (v := (-1)) h (pc' := 19) rfl d0_giveNodesTo_18 (by decide) ?_
        refine x_icmp_ne (tg := 55) h (pc' := 22) rfl d0_giveNodesTo_19 (by decide) Iff.rfl (fun c19 => ?_) (fun c19 => ?_)
        · skip
          refine x_iinc (lv' := [(3, .int (nI (k + 1))), (2, .int (nI fq)), (0, .ref ho), (1, .ref o)]) h (pc' := 58) rfl d0_giveNodesTo_55 0 rfl (n_inc k) (by decide) rfl ?_
          refine x_goto (pc' := 4) h d0_giveNodesTo_58 (by decide) ?_
          refine x_lv (lv' := [(3, .int (nI (k + 1))), (2, .int (nI fq)), (0, .ref ho), (1, .ref o)]) [0, 1, 2, 3] rfl ?_
          exact ih (k + 1) (by omega) fq u2 g fe hfq hg (GV_skip hG (by rw [← hfe]; exact c19))
        · skip
          exact lp2 (hfe.symm.trans c19) (63 - fq) fq (by omega) hG.1
  refine x_iconst (v := (nI 0)) h (pc' := 1) rfl d0_giveNodesTo_0 (by decide) ?_
  refine x_istore_n (lv' := [(2, .int (nI 0)), (0, .ref ho), (1, .ref o)]) h (pc' := 2) rfl d0_giveNodesTo_1 rfl (by decide) rfl ?_
  refine x_iconst (v := (nI 0)) h (pc' := 3) rfl d0_giveNodesTo_2 (by decide) ?_
  refine x_istore_n (lv' := [(3, .int (nI 0)), (2, .int (nI 0)), (0, .ref ho), (1, .ref o)]) h (pc' := 4) rfl d0_giveNodesTo_3 rfl (by decide) rfl ?_
  exact lp n 0 (by omega) 0 u fu fd (by omega) hU (GV_0 hc)
