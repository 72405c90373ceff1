set_option maxRecDepth 100000 in
set_option maxHeartbeats 4000000 in
theorem k1_isHigher (l : Launch) (D : va_G) (cI cZ cS : ClassId) (o b1 b2 b3 b4 : Nat) (fk fv fr fd : Nat → Int32) (n : Nat) (hn : n ≤ 30) (a b : Nat) (ha : a < 30) (hb : b < 30) : CI l y1_isHigher w1_isHigher (rmd 0) D (TS3 cI cZ cS) [.ref o, .int (nI a), .int (nI b)] (wS o b1 b2 b3 b4 cI fk fv fr fd (nI n)) (fun r w' => r = bi (hiC fr a b) ∧ w' = (wS o b1 b2 b3 b4 cI fk fv fr fd (nI n))) := by
  refine x_metZ (lv := [(0, .ref o), (1, .int (nI a)), (2, .int (nI b))]) (by decide +kernel) rfl rfl (Nat.le_of_ble_eq_true rfl) rfl ?_
  intro X h hret
  refine x_aload_n h (pc' := 1) rfl d1_isHigher_0 0 rfl rfl ?_
  refine x_get h (pc' := 4) rfl (fun c q => List.mem_cons_of_mem _ (in1 c q)) 0 2 rfl rfl (by decide) (List.mem_cons_of_mem _ lk1_18) rfl rfl d1_isHigher_1 ?_
  refine x_iload_n h (pc' := 5) rfl d1_isHigher_4 1 rfl rfl ?_
  refine x_iald (v := (fr a)) h (pc' := 6) rfl 3 0 rfl rfl (by omega) (by decide) d1_isHigher_5 rfl ?_
  refine x_aload_n h (pc' := 7) rfl d1_isHigher_6 0 rfl rfl ?_
  refine x_get h (pc' := 10) rfl (fun c q => List.mem_cons_of_mem _ (in1 c q)) 0 2 rfl rfl (by decide) (List.mem_cons_of_mem _ lk1_18) rfl rfl d1_isHigher_7 ?_
  refine x_iload_n h (pc' := 11) rfl d1_isHigher_10 2 rfl rfl ?_
  refine x_iald (v := (fr b)) h (pc' := 12) rfl 3 0 rfl rfl (by omega) (by decide) d1_isHigher_11 rfl ?_
  refine x_icmp_gt (tg := 35) h (pc' := 15) rfl d1_isHigher_12 (by decide) Iff.rfl (fun c12 => ?_) (fun c12 => ?_)
  · skip
    refine x_iconst (v := (nI 1)) h (pc' := 36) rfl d1_isHigher_35 (by decide) ?_
    refine x_goto (pc' := 40) h d1_isHigher_36 (by decide) ?_
    exact hret _ _ _ _ rfl d1_isHigher_40 rfl ⟨bi1 (decide_eq_true (by first | exact Or.inl c12 | exact Or.inr ⟨c27, by omega⟩)), rfl⟩
  · skip
    refine x_aload_n h (pc' := 16) rfl d1_isHigher_15 0 rfl rfl ?_
    refine x_get h (pc' := 19) rfl (fun c q => List.mem_cons_of_mem _ (in1 c q)) 0 2 rfl rfl (by decide) (List.mem_cons_of_mem _ lk1_18) rfl rfl d1_isHigher_16 ?_
    refine x_iload_n h (pc' := 20) rfl d1_isHigher_19 1 rfl rfl ?_
    refine x_iald (v := (fr a)) h (pc' := 21) rfl 3 0 rfl rfl (by omega) (by decide) d1_isHigher_20 rfl ?_
    refine x_aload_n h (pc' := 22) rfl d1_isHigher_21 0 rfl rfl ?_
    refine x_get h (pc' := 25) rfl (fun c q => List.mem_cons_of_mem _ (in1 c q)) 0 2 rfl rfl (by decide) (List.mem_cons_of_mem _ lk1_18) rfl rfl d1_isHigher_22 ?_
    refine x_iload_n h (pc' := 26) rfl d1_isHigher_25 2 rfl rfl ?_
    refine x_iald (v := (fr b)) h (pc' := 27) rfl 3 0 rfl rfl (by omega) (by decide) d1_isHigher_26 rfl ?_
    refine x_icmp_ne (tg := 39) h (pc' := 30) rfl d1_isHigher_27 (by decide) Iff.rfl (fun c27 => ?_) (fun c27 => ?_)
    · skip
      refine x_iconst (v := (nI 0)) h (pc' := 40) rfl d1_isHigher_39 (by decide) ?_
      exact hret _ _ _ _ rfl d1_isHigher_40 rfl ⟨bi0 (decide_eq_false (by rintro (q | ⟨q1, q2⟩) <;> first | exact c12 q | exact c27 q1 | omega)), rfl⟩
    · skip
      refine x_iload_n h (pc' := 31) rfl d1_isHigher_30 1 rfl rfl ?_
      refine x_iload_n h (pc' := 32) rfl d1_isHigher_31 2 rfl rfl ?_
      refine x_icmp_ge (tg := 39) h (pc' := 35) rfl d1_isHigher_32 (by decide) (nI_leI (by omega) (by omega)) (fun c32 => ?_) (fun c32 => ?_)
      · skip
        refine x_iconst (v := (nI 0)) h (pc' := 40) rfl d1_isHigher_39 (by decide) ?_
        exact hret _ _ _ _ rfl d1_isHigher_40 rfl ⟨bi0 (decide_eq_false (by rintro (q | ⟨q1, q2⟩) <;> first | exact c12 q | exact c27 q1 | omega)), rfl⟩
      · skip
        refine x_iconst (v := (nI 1)) h (pc' := 36) rfl d1_isHigher_35 (by decide) ?_
        refine x_goto (pc' := 40) h d1_isHigher_36 (by decide) ?_
        exact hret _ _ _ _ rfl d1_isHigher_40 rfl ⟨bi1 (decide_eq_true (by first | exact Or.inl c12 | exact Or.inr ⟨c27, by omega⟩)), rfl⟩
set_option maxRecDepth 100000 in
set_option maxHeartbeats 4000000 in
theorem k1_firstOfSubtree (l : Launch) (D : va_G) (cI cZ cS : ClassId) (o b1 b2 b3 b4 : Nat) (fk fv fr fd : Nat → Int32) (n : Nat) (hn : n ≤ 30) (a : Nat) (ha : a < 30) : CI l y1_firstOfSubtree w1_firstOfSubtree (rmd 1) D (TS3 cI cZ cS) [.ref o, .int (nI a)] (wS o b1 b2 b3 b4 cI fk fv fr fd (nI n)) (fun r w' => r = nI (fsT (hiC fr) a) ∧ w' = (wS o b1 b2 b3 b4 cI fk fv fr fd (nI n))) := by
  refine x_metI (lv := [(0, .ref o), (1, .int (nI a))]) (by decide +kernel) rfl rfl (Nat.le_of_ble_eq_true rfl) rfl ?_
  intro X h hret
  have lp : ∀ i : Nat, i ≤ a → fsT (hiC fr) a = fstF (hiC fr a) i → WX X 0 0 2 [(2, .int (nI i)), (0, .ref o), (1, .int (nI a))] (wS o b1 b2 b3 b4 cI fk fv fr fd (nI n)) [] := by
    intro i
    induction i with
    | zero =>
      intro hi e
      refine x_iload_n h (pc' := 3) rfl d1_firstOfSubtree_2 0 rfl rfl ?_
      refine x_if_le (tg := 23) h (pc' := 6) rfl d1_firstOfSubtree_3 (by decide) (n_le0 (by omega)) (fun c3 => ?_) (fun c3 => ?_)
      · skip
        refine x_iload_n h (pc' := 24) rfl d1_firstOfSubtree_23 0 rfl rfl ?_
        exact hret _ _ _ _ d1_firstOfSubtree_24 rfl ⟨by rw [e]; rfl, rfl⟩
      · skip
        exact absurd c3 (by omega)
    | succ i ih =>
      intro hi e
      refine x_iload_n h (pc' := 3) rfl d1_firstOfSubtree_2 0 rfl rfl ?_
      refine x_if_le (tg := 23) h (pc' := 6) rfl d1_firstOfSubtree_3 (by decide) (n_le0 (by omega)) (fun c3 => ?_) (fun c3 => ?_)
      · skip
        exact absurd c3 (by omega)
      · skip
        refine x_aload_n h (pc' := 7) rfl d1_firstOfSubtree_6 1 rfl rfl ?_
        refine x_iload_n h (pc' := 8) rfl d1_firstOfSubtree_7 2 rfl rfl ?_
        refine x_iload_n h (pc' := 9) rfl d1_firstOfSubtree_8 0 rfl rfl ?_
        refine x_iconst (v := (nI 1)) h (pc' := 10) rfl d1_firstOfSubtree_9 (by decide) ?_
        refine x_isub (z := (nI ((i + 1) - 1))) h (pc' := 11) rfl d1_firstOfSubtree_10 (pk_sub (by omega)) ?_
        refine x_top (y := (nI i)) (congrArg nI (by omega)) ?_
        -- isHigher
        refine x_vI h (pc' := 14) rfl [.int (nI a), .int (nI i)] (k1_isHigher l D cI cZ cS o b1 b2 b3 b4 fk fv fr fd n (by omega) (a) (i) (by omega) (by omega)) d1_firstOfSubtree_11 2 (gd_V ml1_51 im1_isHigher se1_isHigher ini1 cd1_isHigher) rfl ⟨rfl, rfl⟩ hd1_isHigher ⟨by decide, by decide⟩ ⟨Nat.zero_le _, Nat.zero_le _⟩ 0 rfl rfl rfl [0, 1, 2, 3, 4] rfl rfl rfl (Nat.le_of_ble_eq_true rfl) rfl (fun rr11 ww11 pp11 ee11 => ?_)
        obtain ⟨rfl, rfl⟩ := pp11
        refine x_w (w' := (wS o b1 b2 b3 b4 cI fk fv fr fd (nI n))) rfl ?_
        refine x_if_eq (tg := 23) h (pc' := 17) rfl d1_firstOfSubtree_14 (by decide) (bi_0 _) (fun c14 => ?_) (fun c14 => ?_)
        · skip
          refine x_iload_n h (pc' := 24) rfl d1_firstOfSubtree_23 0 rfl rfl ?_
          exact hret _ _ _ _ d1_firstOfSubtree_24 rfl ⟨by rw [e, fstF_stop c14], rfl⟩
        · skip
          refine x_iinc (lv' := [(2, .int (nI i)), (0, .ref o), (1, .int (nI a))]) h (pc' := 20) rfl d1_firstOfSubtree_17 0 rfl (n_decE (by omega)) (by decide) rfl ?_
          refine x_goto (pc' := 2) h d1_firstOfSubtree_20 (by decide) ?_
          exact ih (by omega) (e.trans (fstF_hit (ne_f c14)))
  refine x_iload_n h (pc' := 1) rfl d1_firstOfSubtree_0 1 rfl rfl ?_
  refine x_istore_n (lv' := [(2, .int (nI a)), (0, .ref o), (1, .int (nI a))]) h (pc' := 2) rfl d1_firstOfSubtree_1 rfl (by decide) rfl ?_
  exact lp a (Nat.le_refl a) rfl
set_option maxRecDepth 100000 in
set_option maxHeartbeats 4000000 in
theorem k1_lastOfSubtree (l : Launch) (D : va_G) (cI cZ cS : ClassId) (o b1 b2 b3 b4 : Nat) (fk fv fr fd : Nat → Int32) (n : Nat) (hn : n ≤ 30) (a : Nat) (ha : a < n) : CI l y1_lastOfSubtree w1_lastOfSubtree (rmd 1) D (TS3 cI cZ cS) [.ref o, .int (nI a)] (wS o b1 b2 b3 b4 cI fk fv fr fd (nI n)) (fun r w' => r = nI (laT (hiC fr) n a) ∧ w' = (wS o b1 b2 b3 b4 cI fk fv fr fd (nI n))) := by
  refine x_metI (lv := [(0, .ref o), (1, .int (nI a))]) (by decide +kernel) rfl rfl (Nat.le_of_ble_eq_true rfl) rfl ?_
  intro X h hret
  have lp : ∀ f i : Nat, i + f + 1 = n → laT (hiC fr) n a = lstF (hiC fr a) f i → WX X 0 0 2 [(2, .int (nI i)), (0, .ref o), (1, .int (nI a))] (wS o b1 b2 b3 b4 cI fk fv fr fd (nI n)) [] := by
    intro f
    induction f with
    | zero =>
      intro i hi e
      refine x_iload_n h (pc' := 3) rfl d1_lastOfSubtree_2 0 rfl rfl ?_
      refine x_aload_n h (pc' := 4) rfl d1_lastOfSubtree_3 1 rfl rfl ?_
      refine x_get h (pc' := 7) rfl (fun c q => List.mem_cons_of_mem _ (in1 c q)) 0 4 rfl rfl (by decide) (List.mem_cons_of_mem _ lk1_24) rfl rfl d1_lastOfSubtree_4 ?_
      refine x_iconst (v := (nI 1)) h (pc' := 8) rfl d1_lastOfSubtree_7 (by decide) ?_
      refine x_isub (z := (nI (n - 1))) h (pc' := 9) rfl d1_lastOfSubtree_8 (pk_sub (by omega)) ?_
      refine x_icmp_ge (tg := 29) h (pc' := 12) rfl d1_lastOfSubtree_9 (by decide) (nI_leI (by omega) (by omega)) (fun c9 => ?_) (fun c9 => ?_)
      · skip
        refine x_iload_n h (pc' := 30) rfl d1_lastOfSubtree_29 0 rfl rfl ?_
        exact hret _ _ _ _ d1_lastOfSubtree_30 rfl ⟨by rw [e]; rfl, rfl⟩
      · skip
        exact absurd c9 (by omega)
    | succ f ih =>
      intro i hi e
      refine x_iload_n h (pc' := 3) rfl d1_lastOfSubtree_2 0 rfl rfl ?_
      refine x_aload_n h (pc' := 4) rfl d1_lastOfSubtree_3 1 rfl rfl ?_
      refine x_get h (pc' := 7) rfl (fun c q => List.mem_cons_of_mem _ (in1 c q)) 0 4 rfl rfl (by decide) (List.mem_cons_of_mem _ lk1_24) rfl rfl d1_lastOfSubtree_4 ?_
      refine x_iconst (v := (nI 1)) h (pc' := 8) rfl d1_lastOfSubtree_7 (by decide) ?_
      refine x_isub (z := (nI (n - 1))) h (pc' := 9) rfl d1_lastOfSubtree_8 (pk_sub (by omega)) ?_
      refine x_icmp_ge (tg := 29) h (pc' := 12) rfl d1_lastOfSubtree_9 (by decide) (nI_leI (by omega) (by omega)) (fun c9 => ?_) (fun c9 => ?_)
      · skip
        exact absurd c9 (by omega)
      · skip
        refine x_aload_n h (pc' := 13) rfl d1_lastOfSubtree_12 1 rfl rfl ?_
        refine x_iload_n h (pc' := 14) rfl d1_lastOfSubtree_13 2 rfl rfl ?_
        refine x_iload_n h (pc' := 15) rfl d1_lastOfSubtree_14 0 rfl rfl ?_
        refine x_iconst (v := (nI 1)) h (pc' := 16) rfl d1_lastOfSubtree_15 (by decide) ?_
        refine x_iadd (z := (nI (i + 1))) h (pc' := 17) rfl d1_lastOfSubtree_16 (nI_add i 1) ?_
        -- isHigher
        refine x_vI h (pc' := 20) rfl [.int (nI a), .int (nI (i + 1))] (k1_isHigher l D cI cZ cS o b1 b2 b3 b4 fk fv fr fd n (by omega) (a) (i + 1) (by omega) (by omega)) d1_lastOfSubtree_17 2 (gd_V ml1_51 im1_isHigher se1_isHigher ini1 cd1_isHigher) rfl ⟨rfl, rfl⟩ hd1_isHigher ⟨by decide, by decide⟩ ⟨Nat.zero_le _, Nat.zero_le _⟩ 0 rfl rfl rfl [0, 1, 2, 3, 4] rfl rfl rfl (Nat.le_of_ble_eq_true rfl) rfl (fun rr17 ww17 pp17 ee17 => ?_)
        obtain ⟨rfl, rfl⟩ := pp17
        refine x_w (w' := (wS o b1 b2 b3 b4 cI fk fv fr fd (nI n))) rfl ?_
        refine x_if_eq (tg := 29) h (pc' := 23) rfl d1_lastOfSubtree_20 (by decide) (bi_0 _) (fun c20 => ?_) (fun c20 => ?_)
        · skip
          refine x_iload_n h (pc' := 30) rfl d1_lastOfSubtree_29 0 rfl rfl ?_
          exact hret _ _ _ _ d1_lastOfSubtree_30 rfl ⟨by rw [e, lstF_stop c20], rfl⟩
        · skip
          refine x_iinc (lv' := [(2, .int (nI (i + 1))), (0, .ref o), (1, .int (nI a))]) h (pc' := 26) rfl d1_lastOfSubtree_23 0 rfl (n_inc i) (by decide) rfl ?_
          refine x_goto (pc' := 2) h d1_lastOfSubtree_26 (by decide) ?_
          exact ih (i + 1) (by omega) (e.trans (lstF_hit (ne_f c20)))
  refine x_iload_n h (pc' := 1) rfl d1_lastOfSubtree_0 1 rfl rfl ?_
  refine x_istore_n (lv' := [(2, .int (nI a)), (0, .ref o), (1, .int (nI a))]) h (pc' := 2) rfl d1_lastOfSubtree_1 rfl (by decide) rfl ?_
  exact lp (n - 1 - a) a (by omega) rfl
set_option maxRecDepth 100000 in
set_option maxHeartbeats 4000000 in
theorem k1_depthAt (l : Launch) (D : va_G) (cI cZ cS : ClassId) (o b1 b2 b3 b4 : Nat) (fk fv fr fd : Nat → Int32) (n : Nat) (hn : n ≤ 30) (a : Nat) (ha : a < n) : CI l y1_depthAt w1_depthAt (rmd 2) D (TS3 cI cZ cS) [.ref o, .int (nI a)] (wS o b1 b2 b3 b4 cI fk fv fr fd (nI n)) (fun r w' => r = nI (cntF (fun i => decide (i ≠ a ∧ fsT (hiC fr) i ≤ a ∧ a ≤ laT (hiC fr) n i)) n) ∧ w' = (wS o b1 b2 b3 b4 cI fk fv fr fd (nI n))) := by
  refine x_metI (lv := [(0, .ref o), (1, .int (nI a))]) (by decide +kernel) rfl rfl (Nat.le_of_ble_eq_true rfl) rfl ?_
  intro X h hret
  have lp : ∀ f i : Nat, i + f = n → WX X 0 0 4 [(3, .int (nI i)), (2, .int (nI (cntF (fun i => decide (i ≠ a ∧ fsT (hiC fr) i ≤ a ∧ a ≤ laT (hiC fr) n i)) i))), (0, .ref o), (1, .int (nI a))] (wS o b1 b2 b3 b4 cI fk fv fr fd (nI n)) [] := by
    intro f
    induction f with
    | zero =>
      intro i hi
      refine x_iload_n h (pc' := 5) rfl d1_depthAt_4 0 rfl rfl ?_
      refine x_aload_n h (pc' := 6) rfl d1_depthAt_5 2 rfl rfl ?_
      refine x_get h (pc' := 9) rfl (fun c q => List.mem_cons_of_mem _ (in1 c q)) 0 4 rfl rfl (by decide) (List.mem_cons_of_mem _ lk1_24) rfl rfl d1_depthAt_6 ?_
      refine x_icmp_ge (tg := 44) h (pc' := 12) rfl d1_depthAt_9 (by decide) (nI_leI (by omega) (by omega)) (fun c9 => ?_) (fun c9 => ?_)
      · skip
        refine x_iload_n h (pc' := 45) rfl d1_depthAt_44 1 rfl rfl ?_
        exact hret _ _ _ _ d1_depthAt_45 rfl ⟨by rw [show i = n by omega], rfl⟩
      · skip
        exact absurd c9 (by omega)
    | succ f ih =>
      intro i hi
      have hcl := cntF_le (fun i => decide (i ≠ a ∧ fsT (hiC fr) i ≤ a ∧ a ≤ laT (hiC fr) n i)) i
      have hF := fsT_le (hiC fr) i
      have hLl := laT_lt (hiC fr) (show i < n by omega)
      refine x_iload_n h (pc' := 5) rfl d1_depthAt_4 0 rfl rfl ?_
      refine x_aload_n h (pc' := 6) rfl d1_depthAt_5 2 rfl rfl ?_
      refine x_get h (pc' := 9) rfl (fun c q => List.mem_cons_of_mem _ (in1 c q)) 0 4 rfl rfl (by decide) (List.mem_cons_of_mem _ lk1_24) rfl rfl d1_depthAt_6 ?_
      refine x_icmp_ge (tg := 44) h (pc' := 12) rfl d1_depthAt_9 (by decide) (nI_leI (by omega) (by omega)) (fun c9 => ?_) (fun c9 => ?_)
      · skip
        exact absurd c9 (by omega)
      · skip
        refine x_iload_n h (pc' := 13) rfl d1_depthAt_12 0 rfl rfl ?_
        refine x_iload_n h (pc' := 14) rfl d1_depthAt_13 3 rfl rfl ?_
        refine x_icmp_eq (tg := 38) h (pc' := 17) rfl d1_depthAt_14 (by decide) (nI_eq (by omega) (by omega)) (fun c14 => ?_) (fun c14 => ?_)
        · skip
          refine x_iinc (lv' := [(3, .int (nI (i + 1))), (2, .int (nI (cntF (fun i => decide (i ≠ a ∧ fsT (hiC fr) i ≤ a ∧ a ≤ laT (hiC fr) n i)) i))), (0, .ref o), (1, .int (nI a))]) h (pc' := 41) rfl d1_depthAt_38 0 rfl (n_inc i) (by decide) rfl ?_
          refine x_goto (pc' := 4) h d1_depthAt_41 (by decide) ?_
          refine x_lv (lv' := [(3, .int (nI (i + 1))), (2, .int (nI (cntF (fun i => decide (i ≠ a ∧ fsT (hiC fr) i ≤ a ∧ a ≤ laT (hiC fr) n i)) i))), (0, .ref o), (1, .int (nI a))]) [0, 1, 2, 3] rfl ?_
          have en : cntF (fun i => decide (i ≠ a ∧ fsT (hiC fr) i ≤ a ∧ a ≤ laT (hiC fr) n i)) i = cntF (fun i => decide (i ≠ a ∧ fsT (hiC fr) i ≤ a ∧ a ≤ laT (hiC fr) n i)) (i + 1) := by rw [cntF_add0 (decide_eq_false (by omega))]
          rw [en]
          exact ih (i + 1) (by omega)
        · skip
          refine x_aload_n h (pc' := 18) rfl d1_depthAt_17 2 rfl rfl ?_
          refine x_iload_n h (pc' := 19) rfl d1_depthAt_18 0 rfl rfl ?_
          -- firstOfSubtree
          refine x_vI h (pc' := 22) rfl [.int (nI i)] (k1_firstOfSubtree l D cI cZ cS o b1 b2 b3 b4 fk fv fr fd n (by omega) (i) (by omega)) d1_depthAt_19 1 (gd_V ml1_55 im1_firstOfSubtree se1_firstOfSubtree ini1 cd1_firstOfSubtree) rfl ⟨rfl, rfl⟩ hd1_firstOfSubtree ⟨by decide, by decide⟩ ⟨Nat.zero_le _, Nat.zero_le _⟩ 0 rfl rfl rfl [0, 1, 2, 3, 4] rfl rfl rfl (Nat.le_of_ble_eq_true rfl) rfl (fun rr19 ww19 pp19 ee19 => ?_)
          obtain ⟨rfl, rfl⟩ := pp19
          refine x_w (w' := (wS o b1 b2 b3 b4 cI fk fv fr fd (nI n))) rfl ?_
          refine x_iload_n h (pc' := 23) rfl d1_depthAt_22 3 rfl rfl ?_
          refine x_icmp_gt (tg := 38) h (pc' := 26) rfl d1_depthAt_23 (by decide) (nI_ltI (by omega) (by omega)) (fun c23 => ?_) (fun c23 => ?_)
          · skip
            refine x_iinc (lv' := [(3, .int (nI (i + 1))), (2, .int (nI (cntF (fun i => decide (i ≠ a ∧ fsT (hiC fr) i ≤ a ∧ a ≤ laT (hiC fr) n i)) i))), (0, .ref o), (1, .int (nI a))]) h (pc' := 41) rfl d1_depthAt_38 0 rfl (n_inc i) (by decide) rfl ?_
            refine x_goto (pc' := 4) h d1_depthAt_41 (by decide) ?_
            refine x_lv (lv' := [(3, .int (nI (i + 1))), (2, .int (nI (cntF (fun i => decide (i ≠ a ∧ fsT (hiC fr) i ≤ a ∧ a ≤ laT (hiC fr) n i)) i))), (0, .ref o), (1, .int (nI a))]) [0, 1, 2, 3] rfl ?_
            have en : cntF (fun i => decide (i ≠ a ∧ fsT (hiC fr) i ≤ a ∧ a ≤ laT (hiC fr) n i)) i = cntF (fun i => decide (i ≠ a ∧ fsT (hiC fr) i ≤ a ∧ a ≤ laT (hiC fr) n i)) (i + 1) := by rw [cntF_add0 (decide_eq_false (by omega))]
            rw [en]
            exact ih (i + 1) (by omega)
          · skip
            refine x_iload_n h (pc' := 27) rfl d1_depthAt_26 3 rfl rfl ?_
            refine x_aload_n h (pc' := 28) rfl d1_depthAt_27 2 rfl rfl ?_
            refine x_iload_n h (pc' := 29) rfl d1_depthAt_28 0 rfl rfl ?_
            -- lastOfSubtree
            refine x_vI h (pc' := 32) rfl [.int (nI i)] (k1_lastOfSubtree l D cI cZ cS o b1 b2 b3 b4 fk fv fr fd n (by omega) (i) (by omega)) d1_depthAt_29 1 (gd_V ml1_58 im1_lastOfSubtree se1_lastOfSubtree ini1 cd1_lastOfSubtree) rfl ⟨rfl, rfl⟩ hd1_lastOfSubtree ⟨by decide, by decide⟩ ⟨Nat.zero_le _, Nat.zero_le _⟩ 0 rfl rfl rfl [0, 1, 2, 3, 4] rfl rfl rfl (Nat.le_of_ble_eq_true rfl) rfl (fun rr29 ww29 pp29 ee29 => ?_)
            obtain ⟨rfl, rfl⟩ := pp29
            refine x_w (w' := (wS o b1 b2 b3 b4 cI fk fv fr fd (nI n))) rfl ?_
            refine x_icmp_gt (tg := 38) h (pc' := 35) rfl d1_depthAt_32 (by decide) (nI_ltI (by omega) (by omega)) (fun c32 => ?_) (fun c32 => ?_)
            · skip
              refine x_iinc (lv' := [(3, .int (nI (i + 1))), (2, .int (nI (cntF (fun i => decide (i ≠ a ∧ fsT (hiC fr) i ≤ a ∧ a ≤ laT (hiC fr) n i)) i))), (0, .ref o), (1, .int (nI a))]) h (pc' := 41) rfl d1_depthAt_38 0 rfl (n_inc i) (by decide) rfl ?_
              refine x_goto (pc' := 4) h d1_depthAt_41 (by decide) ?_
              refine x_lv (lv' := [(3, .int (nI (i + 1))), (2, .int (nI (cntF (fun i => decide (i ≠ a ∧ fsT (hiC fr) i ≤ a ∧ a ≤ laT (hiC fr) n i)) i))), (0, .ref o), (1, .int (nI a))]) [0, 1, 2, 3] rfl ?_
              have en : cntF (fun i => decide (i ≠ a ∧ fsT (hiC fr) i ≤ a ∧ a ≤ laT (hiC fr) n i)) i = cntF (fun i => decide (i ≠ a ∧ fsT (hiC fr) i ≤ a ∧ a ≤ laT (hiC fr) n i)) (i + 1) := by rw [cntF_add0 (decide_eq_false (by omega))]
              rw [en]
              exact ih (i + 1) (by omega)
            · skip
              refine x_iinc (lv' := [(2, .int (nI ((cntF (fun i => decide (i ≠ a ∧ fsT (hiC fr) i ≤ a ∧ a ≤ laT (hiC fr) n i)) i) + 1))), (3, .int (nI i)), (0, .ref o), (1, .int (nI a))]) h (pc' := 38) rfl d1_depthAt_35 1 rfl (n_inc (cntF (fun i => decide (i ≠ a ∧ fsT (hiC fr) i ≤ a ∧ a ≤ laT (hiC fr) n i)) i)) (by decide) rfl ?_
              refine x_iinc (lv' := [(3, .int (nI (i + 1))), (2, .int (nI ((cntF (fun i => decide (i ≠ a ∧ fsT (hiC fr) i ≤ a ∧ a ≤ laT (hiC fr) n i)) i) + 1))), (0, .ref o), (1, .int (nI a))]) h (pc' := 41) rfl d1_depthAt_38 1 rfl (n_inc i) (by decide) rfl ?_
              refine x_goto (pc' := 4) h d1_depthAt_41 (by decide) ?_
              refine x_lv (lv' := [(3, .int (nI (i + 1))), (2, .int (nI ((cntF (fun i => decide (i ≠ a ∧ fsT (hiC fr) i ≤ a ∧ a ≤ laT (hiC fr) n i)) i) + 1))), (0, .ref o), (1, .int (nI a))]) [0, 1, 2, 3] rfl ?_
              have en : (cntF (fun i => decide (i ≠ a ∧ fsT (hiC fr) i ≤ a ∧ a ≤ laT (hiC fr) n i)) i) + 1 = cntF (fun i => decide (i ≠ a ∧ fsT (hiC fr) i ≤ a ∧ a ≤ laT (hiC fr) n i)) (i + 1) := by rw [cntF_add1 (decide_eq_true ⟨by omega, by omega, by omega⟩)]
              rw [en]
              exact ih (i + 1) (by omega)
  refine x_iconst (v := (nI 0)) h (pc' := 1) rfl d1_depthAt_0 (by decide) ?_
  refine x_istore_n (lv' := [(2, .int (nI 0)), (0, .ref o), (1, .int (nI a))]) h (pc' := 2) rfl d1_depthAt_1 rfl (by decide) rfl ?_
  refine x_iconst (v := (nI 0)) h (pc' := 3) rfl d1_depthAt_2 (by decide) ?_
  refine x_istore_n (lv' := [(3, .int (nI 0)), (2, .int (nI 0)), (0, .ref o), (1, .int (nI a))]) h (pc' := 4) rfl d1_depthAt_3 rfl (by decide) rfl ?_
  refine x_lv (lv' := [(3, .int (nI 0)), (2, .int (nI 0)), (0, .ref o), (1, .int (nI a))]) [0, 1, 2, 3] rfl ?_
  exact lp n 0 (by omega)
set_option maxRecDepth 100000 in
set_option maxHeartbeats 4000000 in
theorem k1_hasSameSubtree (l : Launch) (D : va_G) (cI cZ cS : ClassId) (o b1 b2 b3 b4 : Nat) (fk fv fr fd : Nat → Int32) (n : Nat) (hn : n ≤ 30) (p q1 q2 q3 q4 : Nat) (gk gv gr gd : Nat → Int32) (m : Nat) (hm : m ≤ 30) (a b : Nat) (ha : a < n) (hb : b < m) : CI l y1_hasSameSubtree w1_hasSameSubtree (rmd 2) D (TS3 cI cZ cS) [.ref o, .int (nI a), .ref p, .int (nI b)] ((wS o b1 b2 b3 b4 cI fk fv fr fd (nI n)) ++ (wS p q1 q2 q3 q4 cI gk gv gr gd (nI m))) (fun r w' => r = bi (smT (hiC fr) (hiC gr) fk fv gk gv n m a b) ∧ w' = ((wS o b1 b2 b3 b4 cI fk fv fr fd (nI n)) ++ (wS p q1 q2 q3 q4 cI gk gv gr gd (nI m)))) := by
  refine x_metZ (lv := [(0, .ref o), (1, .int (nI a)), (2, .ref p), (3, .int (nI b))]) (by decide +kernel) rfl rfl (Nat.le_of_ble_eq_true rfl) rfl ?_
  intro X h hret
  obtain ⟨F, eF⟩ : ∃ F, fsT (hiC fr) a = F := ⟨_, rfl⟩
  obtain ⟨G, eG⟩ : ∃ G, fsT (hiC gr) b = G := ⟨_, rfl⟩
  obtain ⟨M, eM⟩ : ∃ M, laT (hiC fr) n a = M := ⟨_, rfl⟩
  obtain ⟨U, eU⟩ : ∃ U, laT (hiC gr) m b = U := ⟨_, rfl⟩
  have hF : F ≤ a := eF ▸ fsT_le _ _
  have hG : G ≤ b := eG ▸ fsT_le _ _
  have hM1 : a ≤ M := eM ▸ laT_ge _ _ _
  have hM2 : M < n := eM ▸ laT_lt _ ha
  have hU1 : b ≤ U := eU ▸ laT_ge _ _ _
  have hU2 : U < m := eU ▸ laT_lt _ hb
  have eS : smT (hiC fr) (hiC gr) fk fv gk gv n m a b = (decide (M - F = U - G) && allF (smE fk fv gk gv F G) (M - F + 1)) := by unfold smT; rw [eF, eG, eM, eU]
  have lp : M - F = U - G → ∀ f k : Nat, k + f = M - F + 1 → allF (smE fk fv gk gv F G) k = true → WX X 0 0 46 [(7, .int (nI k)), (6, .int (nI G)), (5, .int (nI ((M - F) + 1))), (4, .int (nI F)), (0, .ref o), (1, .int (nI a)), (2, .ref p), (3, .int (nI b))] ((wS o b1 b2 b3 b4 cI fk fv fr fd (nI n)) ++ (wS p q1 q2 q3 q4 cI gk gv gr gd (nI m))) [] := by
    intro hE f
    induction f with
    | zero =>
      intro k hk e
      refine x_iload h (pc' := 48) rfl d1_hasSameSubtree_46 0 rfl ?_
      refine x_iload h (pc' := 50) rfl d1_hasSameSubtree_48 2 rfl ?_
      refine x_icmp_ge (tg := 107) h (pc' := 53) rfl d1_hasSameSubtree_50 (by decide) (nI_leI (by omega) (by omega)) (fun c50 => ?_) (fun c50 => ?_)
      · skip
        refine x_iconst (v := (nI 1)) h (pc' := 108) rfl d1_hasSameSubtree_107 (by decide) ?_
        exact hret _ _ _ _ rfl d1_hasSameSubtree_108 rfl ⟨bi1 (by rw [eS, decide_eq_true hE, ← show k = M - F + 1 by omega, e]; rfl), rfl⟩
      · skip
        exact absurd c50 (by omega)
    | succ f ih =>
      intro k hk e
      refine x_iload h (pc' := 48) rfl d1_hasSameSubtree_46 0 rfl ?_
      refine x_iload h (pc' := 50) rfl d1_hasSameSubtree_48 2 rfl ?_
      refine x_icmp_ge (tg := 107) h (pc' := 53) rfl d1_hasSameSubtree_50 (by decide) (nI_leI (by omega) (by omega)) (fun c50 => ?_) (fun c50 => ?_)
      · skip
        exact absurd c50 (by omega)
      · skip
        refine x_aload_n h (pc' := 54) rfl d1_hasSameSubtree_53 4 rfl rfl ?_
        refine x_get h (pc' := 57) rfl (fun c q => List.mem_cons_of_mem _ (in1 c q)) 0 0 rfl rfl (by decide) (List.mem_cons_of_mem _ lk1_9) rfl rfl d1_hasSameSubtree_54 ?_
        refine x_iload h (pc' := 59) rfl d1_hasSameSubtree_57 3 rfl ?_
        refine x_iload h (pc' := 61) rfl d1_hasSameSubtree_59 0 rfl ?_
        refine x_iadd (z := (nI (F + k))) h (pc' := 62) rfl d1_hasSameSubtree_61 (nI_add F k) ?_
        refine x_iald (v := (fk (F + k))) h (pc' := 63) rfl 1 0 rfl rfl (by omega) (by decide) d1_hasSameSubtree_62 rfl ?_
        refine x_aload_n h (pc' := 64) rfl d1_hasSameSubtree_63 6 rfl rfl ?_
        refine x_get h (pc' := 67) rfl (fun c q => List.mem_cons_of_mem _ (in1 c q)) 5 0 rfl rfl (by decide) (List.mem_cons_of_mem _ lk1_9) rfl rfl d1_hasSameSubtree_64 ?_
        refine x_iload h (pc' := 69) rfl d1_hasSameSubtree_67 1 rfl ?_
        refine x_iload h (pc' := 71) rfl d1_hasSameSubtree_69 0 rfl ?_
        refine x_iadd (z := (nI (G + k))) h (pc' := 72) rfl d1_hasSameSubtree_71 (nI_add G k) ?_
        refine x_iald (v := (gk (G + k))) h (pc' := 73) rfl 6 0 rfl rfl (by omega) (by decide) d1_hasSameSubtree_72 rfl ?_
        refine x_icmp_ne (tg := 99) h (pc' := 76) rfl d1_hasSameSubtree_73 (by decide) Iff.rfl (fun c73 => ?_) (fun c73 => ?_)
        · skip
          refine x_iconst (v := (nI 0)) h (pc' := 100) rfl d1_hasSameSubtree_99 (by decide) ?_
          exact hret _ _ _ _ rfl d1_hasSameSubtree_100 rfl ⟨bi0 (by rw [eS]; refine and_mono (k := k + 1) (by omega) ?_; show (_ && (allF (smE fk fv gk gv F G) k && (decide (fk (F + k) = gk (G + k)) && decide (fv (F + k) = gv (G + k))))) = false; first | (rw [decide_eq_false c73, Bool.false_and, Bool.and_false, Bool.and_false]) | (rw [decide_eq_false c96, Bool.and_false, Bool.and_false, Bool.and_false])), rfl⟩
        · skip
          refine x_aload_n h (pc' := 77) rfl d1_hasSameSubtree_76 4 rfl rfl ?_
          refine x_get h (pc' := 80) rfl (fun c q => List.mem_cons_of_mem _ (in1 c q)) 0 1 rfl rfl (by decide) (List.mem_cons_of_mem _ lk1_15) rfl rfl d1_hasSameSubtree_77 ?_
          refine x_iload h (pc' := 82) rfl d1_hasSameSubtree_80 3 rfl ?_
          refine x_iload h (pc' := 84) rfl d1_hasSameSubtree_82 0 rfl ?_
          refine x_iadd (z := (nI (F + k))) h (pc' := 85) rfl d1_hasSameSubtree_84 (nI_add F k) ?_
          refine x_iald (v := (fv (F + k))) h (pc' := 86) rfl 2 0 rfl rfl (by omega) (by decide) d1_hasSameSubtree_85 rfl ?_
          refine x_aload_n h (pc' := 87) rfl d1_hasSameSubtree_86 6 rfl rfl ?_
          refine x_get h (pc' := 90) rfl (fun c q => List.mem_cons_of_mem _ (in1 c q)) 5 1 rfl rfl (by decide) (List.mem_cons_of_mem _ lk1_15) rfl rfl d1_hasSameSubtree_87 ?_
          refine x_iload h (pc' := 92) rfl d1_hasSameSubtree_90 1 rfl ?_
          refine x_iload h (pc' := 94) rfl d1_hasSameSubtree_92 0 rfl ?_
          refine x_iadd (z := (nI (G + k))) h (pc' := 95) rfl d1_hasSameSubtree_94 (nI_add G k) ?_
          refine x_iald (v := (gv (G + k))) h (pc' := 96) rfl 7 0 rfl rfl (by omega) (by decide) d1_hasSameSubtree_95 rfl ?_
          refine x_icmp_eq (tg := 101) h (pc' := 99) rfl d1_hasSameSubtree_96 (by decide) Iff.rfl (fun c96 => ?_) (fun c96 => ?_)
          · skip
            refine x_iinc (lv' := [(7, .int (nI (k + 1))), (6, .int (nI G)), (5, .int (nI ((M - F) + 1))), (4, .int (nI F)), (0, .ref o), (1, .int (nI a)), (2, .ref p), (3, .int (nI b))]) h (pc' := 104) rfl d1_hasSameSubtree_101 0 rfl (n_inc k) (by decide) rfl ?_
            refine x_goto (pc' := 46) h d1_hasSameSubtree_104 (by decide) ?_
            exact ih (k + 1) (by omega) (by show (allF (smE fk fv gk gv F G) k && (decide (fk (F + k) = gk (G + k)) && decide (fv (F + k) = gv (G + k)))) = true; rw [e, decide_eq_true c73, decide_eq_true c96]; rfl)
          · skip
            refine x_iconst (v := (nI 0)) h (pc' := 100) rfl d1_hasSameSubtree_99 (by decide) ?_
            exact hret _ _ _ _ rfl d1_hasSameSubtree_100 rfl ⟨bi0 (by rw [eS]; refine and_mono (k := k + 1) (by omega) ?_; show (_ && (allF (smE fk fv gk gv F G) k && (decide (fk (F + k) = gk (G + k)) && decide (fv (F + k) = gv (G + k))))) = false; first | (rw [decide_eq_false c73, Bool.false_and, Bool.and_false, Bool.and_false]) | (rw [decide_eq_false c96, Bool.and_false, Bool.and_false, Bool.and_false])), rfl⟩
  refine x_aload_n h (pc' := 1) rfl d1_hasSameSubtree_0 0 rfl rfl ?_
  refine x_iload_n h (pc' := 2) rfl d1_hasSameSubtree_1 1 rfl rfl ?_
  -- firstOfSubtree
  refine x_vI h (pc' := 5) rfl [.int (nI a)] (k1_firstOfSubtree l D cI cZ cS o b1 b2 b3 b4 fk fv fr fd n (by omega) (a) (by omega)) d1_hasSameSubtree_2 1 (gd_V ml1_55 im1_firstOfSubtree se1_firstOfSubtree ini1 cd1_firstOfSubtree) rfl ⟨rfl, rfl⟩ hd1_firstOfSubtree ⟨by decide, by decide⟩ ⟨Nat.zero_le _, Nat.zero_le _⟩ 0 rfl rfl rfl [0, 1, 2, 3, 4] rfl rfl rfl (Nat.le_of_ble_eq_true rfl) rfl (fun rr2 ww2 pp2 ee2 => ?_)
  obtain ⟨q, rfl⟩ := pp2
  rw [eF] at q
  subst q
  refine x_w (w' := ((wS o b1 b2 b3 b4 cI fk fv fr fd (nI n)) ++ (wS p q1 q2 q3 q4 cI gk gv gr gd (nI m)))) rfl ?_
  refine x_istore (lv' := [(4, .int (nI F)), (0, .ref o), (1, .int (nI a)), (2, .ref p), (3, .int (nI b))]) h (pc' := 7) rfl d1_hasSameSubtree_5 (by decide) rfl ?_
  refine x_aload_n h (pc' := 8) rfl d1_hasSameSubtree_7 1 rfl rfl ?_
  refine x_iload_n h (pc' := 9) rfl d1_hasSameSubtree_8 2 rfl rfl ?_
  -- lastOfSubtree
  refine x_vI h (pc' := 12) rfl [.int (nI a)] (k1_lastOfSubtree l D cI cZ cS o b1 b2 b3 b4 fk fv fr fd n (by omega) (a) (by omega)) d1_hasSameSubtree_9 1 (gd_V ml1_58 im1_lastOfSubtree se1_lastOfSubtree ini1 cd1_lastOfSubtree) rfl ⟨rfl, rfl⟩ hd1_lastOfSubtree ⟨by decide, by decide⟩ ⟨Nat.zero_le _, Nat.zero_le _⟩ 0 rfl rfl rfl [0, 1, 2, 3, 4] rfl rfl rfl (Nat.le_of_ble_eq_true rfl) rfl (fun rr9 ww9 pp9 ee9 => ?_)
  obtain ⟨q, rfl⟩ := pp9
  rw [eM] at q
  subst q
  refine x_w (w' := ((wS o b1 b2 b3 b4 cI fk fv fr fd (nI n)) ++ (wS p q1 q2 q3 q4 cI gk gv gr gd (nI m)))) rfl ?_
  refine x_iload h (pc' := 14) rfl d1_hasSameSubtree_12 0 rfl ?_
  refine x_isub (z := (nI (M - F))) h (pc' := 15) rfl d1_hasSameSubtree_14 (pk_sub (by omega)) ?_
  refine x_iconst (v := (nI 1)) h (pc' := 16) rfl d1_hasSameSubtree_15 (by decide) ?_
  refine x_iadd (z := (nI ((M - F) + 1))) h (pc' := 17) rfl d1_hasSameSubtree_16 (nI_add (M - F) 1) ?_
  refine x_istore (lv' := [(5, .int (nI ((M - F) + 1))), (4, .int (nI F)), (0, .ref o), (1, .int (nI a)), (2, .ref p), (3, .int (nI b))]) h (pc' := 19) rfl d1_hasSameSubtree_17 (by decide) rfl ?_
  refine x_aload_n h (pc' := 20) rfl d1_hasSameSubtree_19 4 rfl rfl ?_
  refine x_iload_n h (pc' := 21) rfl d1_hasSameSubtree_20 5 rfl rfl ?_
  -- firstOfSubtree
  refine x_vI h (pc' := 24) rfl [.int (nI b)] (k1_firstOfSubtree l D cI cZ cS p q1 q2 q3 q4 gk gv gr gd m (by omega) (b) (by omega)) d1_hasSameSubtree_21 1 (gd_V ml1_55 im1_firstOfSubtree se1_firstOfSubtree ini1 cd1_firstOfSubtree) rfl ⟨rfl, rfl⟩ hd1_firstOfSubtree ⟨by decide, by decide⟩ ⟨Nat.zero_le _, Nat.zero_le _⟩ 5 rfl rfl rfl [5, 6, 7, 8, 9] rfl rfl rfl (Nat.le_of_ble_eq_true rfl) rfl (fun rr21 ww21 pp21 ee21 => ?_)
  obtain ⟨q, rfl⟩ := pp21
  rw [eG] at q
  subst q
  refine x_w (w' := ((wS o b1 b2 b3 b4 cI fk fv fr fd (nI n)) ++ (wS p q1 q2 q3 q4 cI gk gv gr gd (nI m)))) rfl ?_
  refine x_istore (lv' := [(6, .int (nI G)), (5, .int (nI ((M - F) + 1))), (4, .int (nI F)), (0, .ref o), (1, .int (nI a)), (2, .ref p), (3, .int (nI b))]) h (pc' := 26) rfl d1_hasSameSubtree_24 (by decide) rfl ?_
  refine x_aload_n h (pc' := 27) rfl d1_hasSameSubtree_26 5 rfl rfl ?_
  refine x_iload_n h (pc' := 28) rfl d1_hasSameSubtree_27 6 rfl rfl ?_
  -- lastOfSubtree
  refine x_vI h (pc' := 31) rfl [.int (nI b)] (k1_lastOfSubtree l D cI cZ cS p q1 q2 q3 q4 gk gv gr gd m (by omega) (b) (by omega)) d1_hasSameSubtree_28 1 (gd_V ml1_58 im1_lastOfSubtree se1_lastOfSubtree ini1 cd1_lastOfSubtree) rfl ⟨rfl, rfl⟩ hd1_lastOfSubtree ⟨by decide, by decide⟩ ⟨Nat.zero_le _, Nat.zero_le _⟩ 5 rfl rfl rfl [5, 6, 7, 8, 9] rfl rfl rfl (Nat.le_of_ble_eq_true rfl) rfl (fun rr28 ww28 pp28 ee28 => ?_)
  obtain ⟨q, rfl⟩ := pp28
  rw [eU] at q
  subst q
  refine x_w (w' := ((wS o b1 b2 b3 b4 cI fk fv fr fd (nI n)) ++ (wS p q1 q2 q3 q4 cI gk gv gr gd (nI m)))) rfl ?_
  refine x_iload h (pc' := 33) rfl d1_hasSameSubtree_31 0 rfl ?_
  refine x_isub (z := (nI (U - G))) h (pc' := 34) rfl d1_hasSameSubtree_33 (pk_sub (by omega)) ?_
  refine x_iconst (v := (nI 1)) h (pc' := 35) rfl d1_hasSameSubtree_34 (by decide) ?_
  refine x_iadd (z := (nI ((U - G) + 1))) h (pc' := 36) rfl d1_hasSameSubtree_35 (nI_add (U - G) 1) ?_
  refine x_iload h (pc' := 38) rfl d1_hasSameSubtree_36 1 rfl ?_
  refine x_icmp_eq (tg := 43) h (pc' := 41) rfl d1_hasSameSubtree_38 (by decide) (nI_eq (by omega) (by omega)) (fun c38 => ?_) (fun c38 => ?_)
  · skip
    refine x_iconst (v := (nI 0)) h (pc' := 44) rfl d1_hasSameSubtree_43 (by decide) ?_
    refine x_istore (lv' := [(7, .int (nI 0)), (6, .int (nI G)), (5, .int (nI ((M - F) + 1))), (4, .int (nI F)), (0, .ref o), (1, .int (nI a)), (2, .ref p), (3, .int (nI b))]) h (pc' := 46) rfl d1_hasSameSubtree_44 (by decide) rfl ?_
    refine x_lv (lv' := [(7, .int (nI 0)), (6, .int (nI G)), (5, .int (nI ((M - F) + 1))), (4, .int (nI F)), (0, .ref o), (1, .int (nI a)), (2, .ref p), (3, .int (nI b))]) [0, 1, 2, 3, 4, 5, 6, 7] rfl ?_
    exact lp (by omega) (M - F + 1) 0 (by omega) rfl
  · skip
    refine x_iconst (v := (nI 0)) h (pc' := 42) rfl d1_hasSameSubtree_41 (by decide) ?_
    exact hret _ _ _ _ rfl d1_hasSameSubtree_42 rfl ⟨bi0 (by rw [eS, decide_eq_false (by omega)]; rfl), rfl⟩
set_option maxRecDepth 100000 in
set_option maxHeartbeats 4000000 in
theorem k1_keepNodesOf (l : Launch) (D : va_G) (cI cZ cS : ClassId) (o b1 b2 b3 b4 : Nat) (fk fv fr fd : Nat → Int32) (n : Nat) (hn : n ≤ 30) (p q1 q2 q3 q4 : Nat) (gk gv gr gd : Nat → Int32) (m : Nat) (hm : m ≤ 30) (hK : inc gk m) : CI l y1_keepNodesOf w1_keepNodesOf (rmd 3) D (TS3 cI cZ cS) [.ref o, .ref p] ((wS o b1 b2 b3 b4 cI fk fv fr fd (nI n)) ++ (wS p q1 q2 q3 q4 cI gk gv gr gd (nI m))) (fun r w' => r = nI (nwC fk fv fr gk gv gr n m n) ∧ w' = ((wS o b1 b2 b3 b4 cI fk fv fr (keF fd gd (kpC fk fv fr gk gv gr n m) (olC fk gk m) n) (nI n)) ++ (wS p q1 q2 q3 q4 cI gk gv gr gd (nI m)))) := by
  refine x_metI (lv := [(0, .ref o), (1, .ref p)]) (by decide +kernel) rfl rfl (Nat.le_of_ble_eq_true rfl) rfl ?_
  intro X h hret
  have lp : ∀ f k : Nat, k + f = n → WX X 0 0 4 [(3, .int (nI k)), (2, .int (nI (nwC fk fv fr gk gv gr n m k))), (0, .ref o), (1, .ref p)] ((wS o b1 b2 b3 b4 cI fk fv fr (keF fd gd (kpC fk fv fr gk gv gr n m) (olC fk gk m) k) (nI n)) ++ (wS p q1 q2 q3 q4 cI gk gv gr gd (nI m))) [] := by
    intro f
    induction f with
    | zero =>
      intro k hk
      refine x_iload_n h (pc' := 5) rfl d1_keepNodesOf_4 0 rfl rfl ?_
      refine x_aload_n h (pc' := 6) rfl d1_keepNodesOf_5 2 rfl rfl ?_
      refine x_get h (pc' := 9) rfl (fun c q => List.mem_cons_of_mem _ (in1 c q)) 0 4 rfl rfl (by decide) (List.mem_cons_of_mem _ lk1_24) rfl rfl d1_keepNodesOf_6 ?_
      refine x_icmp_ge (tg := 73) h (pc' := 12) rfl d1_keepNodesOf_9 (by decide) (nI_leI (by omega) (by omega)) (fun c9 => ?_) (fun c9 => ?_)
      · skip
        refine x_iload_n h (pc' := 74) rfl d1_keepNodesOf_73 1 rfl rfl ?_
        exact hret _ _ _ _ d1_keepNodesOf_74 rfl ⟨by rw [show k = n by omega], by rw [show k = n by omega]⟩
      · skip
        exact absurd c9 (by omega)
    | succ f ih =>
      intro k hk
      have hnw : nwC fk fv fr gk gv gr n m k ≤ k := cntF_le _ _
      refine x_iload_n h (pc' := 5) rfl d1_keepNodesOf_4 0 rfl rfl ?_
      refine x_aload_n h (pc' := 6) rfl d1_keepNodesOf_5 2 rfl rfl ?_
      refine x_get h (pc' := 9) rfl (fun c q => List.mem_cons_of_mem _ (in1 c q)) 0 4 rfl rfl (by decide) (List.mem_cons_of_mem _ lk1_24) rfl rfl d1_keepNodesOf_6 ?_
      refine x_icmp_ge (tg := 73) h (pc' := 12) rfl d1_keepNodesOf_9 (by decide) (nI_leI (by omega) (by omega)) (fun c9 => ?_) (fun c9 => ?_)
      · skip
        exact absurd c9 (by omega)
      · skip
        refine x_aload_n h (pc' := 13) rfl d1_keepNodesOf_12 3 rfl rfl ?_
        refine x_aload_n h (pc' := 14) rfl d1_keepNodesOf_13 2 rfl rfl ?_
        refine x_get h (pc' := 17) rfl (fun c q => List.mem_cons_of_mem _ (in1 c q)) 0 0 rfl rfl (by decide) (List.mem_cons_of_mem _ lk1_9) rfl rfl d1_keepNodesOf_14 ?_
        refine x_iload_n h (pc' := 18) rfl d1_keepNodesOf_17 0 rfl rfl ?_
        refine x_iald (v := (fk k)) h (pc' := 19) rfl 1 0 rfl rfl (by omega) (by decide) d1_keepNodesOf_18 rfl ?_
        -- indexOf
        refine x_vI h (pc' := 22) rfl [.int (fk k)] (k1_indexOf l D cI cZ cS p q1 q2 q3 q4 gk gv gr gd m (by omega) hK (fk k)) d1_keepNodesOf_19 1 (gd_V ml1_38 im1_indexOf se1_indexOf ini1 cd1_indexOf) rfl ⟨rfl, rfl⟩ hd1_indexOf ⟨by decide, by decide⟩ ⟨Nat.zero_le _, Nat.zero_le _⟩ 5 rfl rfl rfl [5, 6, 7, 8, 9] rfl rfl rfl (Nat.le_of_ble_eq_true rfl) rfl (fun rr19 ww19 pp19 ee19 => ?_)
        obtain ⟨rfl, rfl⟩ := pp19
        rcases hq : fnK gk m (fk k) with _ | i
        · skip
          refine x_w (w' := ((wS o b1 b2 b3 b4 cI fk fv fr (keF fd gd (kpC fk fv fr gk gv gr n m) (olC fk gk m) k) (nI n)) ++ (wS p q1 q2 q3 q4 cI gk gv gr gd (nI m)))) rfl ?_
          refine x_top (y := (-1)) rfl ?_
          refine x_istore (lv' := [(4, .int (-1)), (3, .int (nI k)), (2, .int (nI (nwC fk fv fr gk gv gr n m k))), (0, .ref o), (1, .ref p)]) h (pc' := 24) rfl d1_keepNodesOf_22 (by decide) rfl ?_
          refine x_iload h (pc' := 26) rfl d1_keepNodesOf_24 0 rfl ?_
          refine x_iconst (v := (-1)) h (pc' := 27) rfl d1_keepNodesOf_26 (by decide) ?_
          refine x_icmp_eq (tg := 57) h (pc' := 30) rfl d1_keepNodesOf_27 (by decide) Iff.rfl (fun c27 => ?_) (fun c27 => ?_)
          · skip
            refine x_aload_n h (pc' := 58) rfl d1_keepNodesOf_57 3 rfl rfl ?_
            refine x_get h (pc' := 61) rfl (fun c q => List.mem_cons_of_mem _ (in1 c q)) 0 3 rfl rfl (by decide) (List.mem_cons_of_mem _ lk1_21) rfl rfl d1_keepNodesOf_58 ?_
            refine x_iload_n h (pc' := 62) rfl d1_keepNodesOf_61 1 rfl rfl ?_
            refine x_iconst (v := (-1)) h (pc' := 63) rfl d1_keepNodesOf_62 (by decide) ?_
            refine x_iast (w' := ((wS o b1 b2 b3 b4 cI fk fv fr (upd (keF fd gd (kpC fk fv fr gk gv gr n m) (olC fk gk m) k) k (-1)) (nI n)) ++ (wS p q1 q2 q3 q4 cI gk gv gr gd (nI m)))) h (pc' := 64) rfl 4 0 rfl rfl (by omega) (by decide) d1_keepNodesOf_63 rfl ?_
            refine x_iinc (lv' := [(2, .int (nI ((nwC fk fv fr gk gv gr n m k) + 1))), (4, .int (-1)), (3, .int (nI k)), (0, .ref o), (1, .ref p)]) h (pc' := 67) rfl d1_keepNodesOf_64 2 rfl (n_inc (nwC fk fv fr gk gv gr n m k)) (by decide) rfl ?_
            refine x_iinc (lv' := [(3, .int (nI (k + 1))), (2, .int (nI ((nwC fk fv fr gk gv gr n m k) + 1))), (4, .int (-1)), (0, .ref o), (1, .ref p)]) h (pc' := 70) rfl d1_keepNodesOf_67 2 rfl (n_inc k) (by decide) rfl ?_
            refine x_goto (pc' := 4) h d1_keepNodesOf_70 (by decide) ?_
            have hkp : kpC fk fv fr gk gv gr n m k = false := by show (match fnK gk m (fk k) with | none => false | some b => _) = _; rw [hq]
            have en : nwC fk fv fr gk gv gr n m (k + 1) = nwC fk fv fr gk gv gr n m k + 1 := cntF_add1 (by rw [hkp]; rfl)
            have ef : upd (keF fd gd (kpC fk fv fr gk gv gr n m) (olC fk gk m) k) k (-1) = keF fd gd (kpC fk fv fr gk gv gr n m) (olC fk gk m) (k + 1) := keF_s (by rw [hkp]; rfl)
            refine x_lv (lv' := [(3, .int (nI (k + 1))), (2, .int (nI ((nwC fk fv fr gk gv gr n m k) + 1))), (0, .ref o), (1, .ref p)]) [0, 1, 3, 4] rfl ?_
            rw [ef, show (nwC fk fv fr gk gv gr n m k) + 1 = nwC fk fv fr gk gv gr n m (k + 1) by omega]
            exact ih (k + 1) (by omega)
          · skip
            exact absurd rfl c27
        · skip
          have hb := fnK_some hq
          refine x_w (w' := ((wS o b1 b2 b3 b4 cI fk fv fr (keF fd gd (kpC fk fv fr gk gv gr n m) (olC fk gk m) k) (nI n)) ++ (wS p q1 q2 q3 q4 cI gk gv gr gd (nI m)))) rfl ?_
          refine x_top (y := (nI i)) rfl ?_
          refine x_istore (lv' := [(4, .int (nI i)), (3, .int (nI k)), (2, .int (nI (nwC fk fv fr gk gv gr n m k))), (0, .ref o), (1, .ref p)]) h (pc' := 24) rfl d1_keepNodesOf_22 (by decide) rfl ?_
          refine x_iload h (pc' := 26) rfl d1_keepNodesOf_24 0 rfl ?_
          refine x_iconst (v := (-1)) h (pc' := 27) rfl d1_keepNodesOf_26 (by decide) ?_
          refine x_icmp_eq (tg := 57) h (pc' := 30) rfl d1_keepNodesOf_27 (by decide) (n_m1 (by omega)) (fun c27 => ?_) (fun c27 => ?_)
          · skip
            exact c27.elim
          · skip
            refine x_aload_n h (pc' := 31) rfl d1_keepNodesOf_30 3 rfl rfl ?_
            refine x_iload_n h (pc' := 32) rfl d1_keepNodesOf_31 1 rfl rfl ?_
            refine x_aload_n h (pc' := 33) rfl d1_keepNodesOf_32 4 rfl rfl ?_
            refine x_iload h (pc' := 35) rfl d1_keepNodesOf_33 0 rfl ?_
            -- hasSameSubtree
            refine x_vI h (pc' := 38) rfl [.int (nI k), .ref p, .int (nI i)] (k1_hasSameSubtree l D cI cZ cS o b1 b2 b3 b4 fk fv fr (keF fd gd (kpC fk fv fr gk gv gr n m) (olC fk gk m) k) n (by omega) p q1 q2 q3 q4 gk gv gr gd m (by omega) k i (by omega) hb.1) d1_keepNodesOf_35 3 (gd_V ml1_61 im1_hasSameSubtree se1_hasSameSubtree ini1 cd1_hasSameSubtree) rfl ⟨rfl, rfl⟩ hd1_hasSameSubtree ⟨by decide, by decide⟩ ⟨Nat.zero_le _, Nat.zero_le _⟩ 0 rfl rfl rfl [0, 1, 2, 3, 4, 5, 6, 7, 8, 9] rfl rfl rfl (Nat.le_of_ble_eq_true rfl) rfl (fun rr35 ww35 pp35 ee35 => ?_)
            obtain ⟨rfl, rfl⟩ := pp35
            refine x_w (w' := ((wS o b1 b2 b3 b4 cI fk fv fr (keF fd gd (kpC fk fv fr gk gv gr n m) (olC fk gk m) k) (nI n)) ++ (wS p q1 q2 q3 q4 cI gk gv gr gd (nI m)))) rfl ?_
            refine x_if_eq (tg := 57) h (pc' := 41) rfl d1_keepNodesOf_38 (by decide) (bi_0 _) (fun c38 => ?_) (fun c38 => ?_)
            · skip
              refine x_aload_n h (pc' := 58) rfl d1_keepNodesOf_57 3 rfl rfl ?_
              refine x_get h (pc' := 61) rfl (fun c q => List.mem_cons_of_mem _ (in1 c q)) 0 3 rfl rfl (by decide) (List.mem_cons_of_mem _ lk1_21) rfl rfl d1_keepNodesOf_58 ?_
              refine x_iload_n h (pc' := 62) rfl d1_keepNodesOf_61 1 rfl rfl ?_
              refine x_iconst (v := (-1)) h (pc' := 63) rfl d1_keepNodesOf_62 (by decide) ?_
              refine x_iast (w' := ((wS o b1 b2 b3 b4 cI fk fv fr (upd (keF fd gd (kpC fk fv fr gk gv gr n m) (olC fk gk m) k) k (-1)) (nI n)) ++ (wS p q1 q2 q3 q4 cI gk gv gr gd (nI m)))) h (pc' := 64) rfl 4 0 rfl rfl (by omega) (by decide) d1_keepNodesOf_63 rfl ?_
              refine x_iinc (lv' := [(2, .int (nI ((nwC fk fv fr gk gv gr n m k) + 1))), (4, .int (nI i)), (3, .int (nI k)), (0, .ref o), (1, .ref p)]) h (pc' := 67) rfl d1_keepNodesOf_64 2 rfl (n_inc (nwC fk fv fr gk gv gr n m k)) (by decide) rfl ?_
              refine x_iinc (lv' := [(3, .int (nI (k + 1))), (2, .int (nI ((nwC fk fv fr gk gv gr n m k) + 1))), (4, .int (nI i)), (0, .ref o), (1, .ref p)]) h (pc' := 70) rfl d1_keepNodesOf_67 2 rfl (n_inc k) (by decide) rfl ?_
              refine x_goto (pc' := 4) h d1_keepNodesOf_70 (by decide) ?_
              have hkp : kpC fk fv fr gk gv gr n m k = false := by show (match fnK gk m (fk k) with | none => false | some b => _) = _; rw [hq]; exact c38
              have en : nwC fk fv fr gk gv gr n m (k + 1) = nwC fk fv fr gk gv gr n m k + 1 := cntF_add1 (by rw [hkp]; rfl)
              have ef : upd (keF fd gd (kpC fk fv fr gk gv gr n m) (olC fk gk m) k) k (-1) = keF fd gd (kpC fk fv fr gk gv gr n m) (olC fk gk m) (k + 1) := keF_s (by rw [hkp]; rfl)
              refine x_lv (lv' := [(3, .int (nI (k + 1))), (2, .int (nI ((nwC fk fv fr gk gv gr n m k) + 1))), (0, .ref o), (1, .ref p)]) [0, 1, 3, 4] rfl ?_
              rw [ef, show (nwC fk fv fr gk gv gr n m k) + 1 = nwC fk fv fr gk gv gr n m (k + 1) by omega]
              exact ih (k + 1) (by omega)
            · skip
              refine x_aload_n h (pc' := 42) rfl d1_keepNodesOf_41 3 rfl rfl ?_
              refine x_get h (pc' := 45) rfl (fun c q => List.mem_cons_of_mem _ (in1 c q)) 0 3 rfl rfl (by decide) (List.mem_cons_of_mem _ lk1_21) rfl rfl d1_keepNodesOf_42 ?_
              refine x_iload_n h (pc' := 46) rfl d1_keepNodesOf_45 1 rfl rfl ?_
              refine x_aload_n h (pc' := 47) rfl d1_keepNodesOf_46 4 rfl rfl ?_
              refine x_get h (pc' := 50) rfl (fun c q => List.mem_cons_of_mem _ (in1 c q)) 5 3 rfl rfl (by decide) (List.mem_cons_of_mem _ lk1_21) rfl rfl d1_keepNodesOf_47 ?_
              refine x_iload h (pc' := 52) rfl d1_keepNodesOf_50 0 rfl ?_
              refine x_iald (v := (gd i)) h (pc' := 53) rfl 9 0 rfl rfl (by omega) (by decide) d1_keepNodesOf_52 rfl ?_
              refine x_iast (w' := ((wS o b1 b2 b3 b4 cI fk fv fr (upd (keF fd gd (kpC fk fv fr gk gv gr n m) (olC fk gk m) k) k (gd i)) (nI n)) ++ (wS p q1 q2 q3 q4 cI gk gv gr gd (nI m)))) h (pc' := 54) rfl 4 0 rfl rfl (by omega) (by decide) d1_keepNodesOf_53 rfl ?_
              refine x_goto (pc' := 67) h d1_keepNodesOf_54 (by decide) ?_
              refine x_iinc (lv' := [(3, .int (nI (k + 1))), (4, .int (nI i)), (2, .int (nI (nwC fk fv fr gk gv gr n m k))), (0, .ref o), (1, .ref p)]) h (pc' := 70) rfl d1_keepNodesOf_67 1 rfl (n_inc k) (by decide) rfl ?_
              refine x_goto (pc' := 4) h d1_keepNodesOf_70 (by decide) ?_
              have hkp : kpC fk fv fr gk gv gr n m k = true := by show (match fnK gk m (fk k) with | none => false | some b => _) = _; rw [hq]; exact ne_f c38
              have en : nwC fk fv fr gk gv gr n m (k + 1) = nwC fk fv fr gk gv gr n m k + 0 := cntF_add0 (by rw [hkp]; rfl)
              have ef : upd (keF fd gd (kpC fk fv fr gk gv gr n m) (olC fk gk m) k) k (gd i) = keF fd gd (kpC fk fv fr gk gv gr n m) (olC fk gk m) (k + 1) := keF_s (by rw [hkp]; show gd i = gd ((fnK gk m (fk k)).getD 0); rw [hq]; rfl)
              refine x_lv (lv' := [(3, .int (nI (k + 1))), (2, .int (nI (nwC fk fv fr gk gv gr n m k))), (0, .ref o), (1, .ref p)]) [0, 2, 3, 4] rfl ?_
              rw [ef, show nwC fk fv fr gk gv gr n m k = nwC fk fv fr gk gv gr n m (k + 1) by omega]
              exact ih (k + 1) (by omega)
  refine x_iconst (v := (nI 0)) h (pc' := 1) rfl d1_keepNodesOf_0 (by decide) ?_
  refine x_istore_n (lv' := [(2, .int (nI 0)), (0, .ref o), (1, .ref p)]) h (pc' := 2) rfl d1_keepNodesOf_1 rfl (by decide) rfl ?_
  refine x_iconst (v := (nI 0)) h (pc' := 3) rfl d1_keepNodesOf_2 (by decide) ?_
  refine x_istore_n (lv' := [(3, .int (nI 0)), (2, .int (nI 0)), (0, .ref o), (1, .ref p)]) h (pc' := 4) rfl d1_keepNodesOf_3 rfl (by decide) rfl ?_
  refine x_lv (lv' := [(3, .int (nI 0)), (2, .int (nI 0)), (0, .ref o), (1, .ref p)]) [0, 1, 2, 3] rfl ?_
  refine x_w (w' := ((wS o b1 b2 b3 b4 cI fk fv fr (keF fd gd (kpC fk fv fr gk gv gr n m) (olC fk gk m) 0) (nI n)) ++ (wS p q1 q2 q3 q4 cI gk gv gr gd (nI m)))) (by rw [keF_0]) ?_
  exact lp n 0 (by omega)
