theorem ml1_28 : Cond.methodLink R1 28 arraycopyName ∈ BG := bg_t 118 (by decide +kernel) (by decide +kernel)
theorem nat_ac : Cond.native arraycopyName ∈ BG := bg_t 120 (by decide +kernel) (by decide +kernel)
theorem sta_ac : Cond.static arraycopyName ∈ BG := bg_t 119 (by decide +kernel) (by decide +kernel)
theorem ini_sys : Cond.initialized "java/lang/System" ∈ BG := bg_t 5 (by decide +kernel) (by decide +kernel)
set_option maxRecDepth 100000 in
set_option maxHeartbeats 4000000 in
theorem k1_rankOf (l : Launch) (D : va_G) (cI cZ cS : ClassId) (key : Int32) : CI l y1_rankOf w1_rankOf (rmd 0) D (TS3 cI cZ cS) [.int key] [] (fun r w' => r = rk key ∧ w' = []) := by
  refine x_metI (lv := [(0, .int key)]) (by decide +kernel) rfl rfl (Nat.le_of_ble_eq_true rfl) rfl ?_
  intro X h hret
  refine x_iload_n h (pc' := 1) rfl d1_rankOf_0 0 rfl rfl ?_
  refine x_iconst (v := (nI 1)) h (pc' := 2) rfl d1_rankOf_1 (by decide) ?_
  refine x_iadd (z := (key + (nI 1))) h (pc' := 3) rfl d1_rankOf_2 rfl ?_
  refine x_ldc (v := 1664525) h (pc' := 5) rfl (List.mem_cons_of_mem _ ck1_48) d1_rankOf_3 ?_
  refine x_imul (z := ((key + (nI 1)) * 1664525)) h (pc' := 6) rfl d1_rankOf_5 rfl ?_
  refine x_ldc (v := 1013904223) h (pc' := 8) rfl (List.mem_cons_of_mem _ ck1_49) d1_rankOf_6 ?_
  refine x_iadd (z := (((key + (nI 1)) * 1664525) + 1013904223)) h (pc' := 9) rfl d1_rankOf_8 rfl ?_
  refine x_istore_n (lv' := [(1, .int (((key + (nI 1)) * 1664525) + 1013904223)), (0, .int key)]) h (pc' := 10) rfl d1_rankOf_9 rfl (by decide) rfl ?_
  refine x_iload_n h (pc' := 11) rfl d1_rankOf_10 0 rfl rfl ?_
  refine x_iload_n h (pc' := 12) rfl d1_rankOf_11 0 rfl rfl ?_
  refine x_bipush (v := (nI 15)) h (pc' := 14) rfl d1_rankOf_12 (by decide) ?_
  refine x_iushr (z := (((((key + (nI 1)) * 1664525) + 1013904223).toUInt32 >>> ((nI 15).toUInt32 &&& Int32.toUInt32 31)).toInt32)) h (pc' := 15) rfl d1_rankOf_14 rfl ?_
  refine x_ixor (z := ((((key + (nI 1)) * 1664525) + 1013904223) ^^^ (((((key + (nI 1)) * 1664525) + 1013904223).toUInt32 >>> ((nI 15).toUInt32 &&& Int32.toUInt32 31)).toInt32))) h (pc' := 16) rfl d1_rankOf_15 rfl ?_
  refine x_ldc (v := 1048575) h (pc' := 18) rfl (List.mem_cons_of_mem _ ck1_50) d1_rankOf_16 ?_
  refine x_iand (z := (((((key + (nI 1)) * 1664525) + 1013904223) ^^^ (((((key + (nI 1)) * 1664525) + 1013904223).toUInt32 >>> ((nI 15).toUInt32 &&& Int32.toUInt32 31)).toInt32)) &&& 1048575)) h (pc' := 19) rfl d1_rankOf_18 rfl ?_
  exact hret _ _ _ _ d1_rankOf_19 rfl ⟨rfl, rfl⟩
set_option maxRecDepth 100000 in
set_option maxHeartbeats 4000000 in
theorem k1_copyFrom (l : Launch) (D : va_G) (cI cZ cS : ClassId) (o b1 b2 b3 b4 : Nat) (fk fv fr fd : Nat → Int32) (n : Nat) (hn : n ≤ 30) (p q1 q2 q3 q4 : Nat) (gk gv gr gd : Nat → Int32) (m : Nat) (hm : m ≤ 30) : CV l y1_copyFrom w1_copyFrom (rmd 1) D (TS3 cI cZ cS) [.ref o, .ref p] ((wS o b1 b2 b3 b4 cI fk fv fr fd (nI n)) ++ (wS p q1 q2 q3 q4 cI gk gv gr gd (nI m))) (fun w' => w' = ((wS o b1 b2 b3 b4 cI (va_cpy gk fk 0 0 m) (va_cpy gv fv 0 0 m) (va_cpy gr fr 0 0 m) (va_cpy gd fd 0 0 m) (nI m)) ++ (wS p q1 q2 q3 q4 cI gk gv gr gd (nI m)))) := by
  refine x_metV (lv := [(0, .ref o), (1, .ref p)]) (by decide +kernel) rfl rfl (Nat.le_of_ble_eq_true rfl) rfl ?_
  intro X h hret
  refine x_aload_n h (pc' := 1) rfl d1_copyFrom_0 0 rfl rfl ?_
  refine x_aload_n h (pc' := 2) rfl d1_copyFrom_1 1 rfl rfl ?_
  refine x_get h (pc' := 5) rfl (fun c q => List.mem_cons_of_mem _ (in1 c q)) 5 4 rfl rfl (by decide) (List.mem_cons_of_mem _ lk1_24) rfl rfl d1_copyFrom_2 ?_
  refine x_put (w' := ((wS o b1 b2 b3 b4 cI fk fv fr fd (nI m)) ++ (wS p q1 q2 q3 q4 cI gk gv gr gd (nI m)))) (ty := .int) h (pc' := 8) rfl (fun c q => List.mem_cons_of_mem _ (in1 c q)) ok1 nm1 0 4 rfl rfl (by decide) (List.mem_cons_of_mem _ lk1_24) rfl rfl rfl rfl rfl (Nat.le_of_ble_eq_true rfl) rfl d1_copyFrom_5 ?_
  refine x_aload_n h (pc' := 9) rfl d1_copyFrom_8 1 rfl rfl ?_
  refine x_get h (pc' := 12) rfl (fun c q => List.mem_cons_of_mem _ (in1 c q)) 5 0 rfl rfl (by decide) (List.mem_cons_of_mem _ lk1_9) rfl rfl d1_copyFrom_9 ?_
  refine x_iconst (v := (nI 0)) h (pc' := 13) rfl d1_copyFrom_12 (by decide) ?_
  refine x_aload_n h (pc' := 14) rfl d1_copyFrom_13 0 rfl rfl ?_
  refine x_get h (pc' := 17) rfl (fun c q => List.mem_cons_of_mem _ (in1 c q)) 0 0 rfl rfl (by decide) (List.mem_cons_of_mem _ lk1_9) rfl rfl d1_copyFrom_14 ?_
  refine x_iconst (v := (nI 0)) h (pc' := 18) rfl d1_copyFrom_17 (by decide) ?_
  refine x_aload_n h (pc' := 19) rfl d1_copyFrom_18 0 rfl rfl ?_
  refine x_get h (pc' := 22) rfl (fun c q => List.mem_cons_of_mem _ (in1 c q)) 0 4 rfl rfl (by decide) (List.mem_cons_of_mem _ lk1_24) rfl rfl d1_copyFrom_19 ?_
  refine x_acpy (w' := ((wS o b1 b2 b3 b4 cI (va_cpy gk fk 0 0 m) fv fr fd (nI m)) ++ (wS p q1 q2 q3 q4 cI gk gv gr gd (nI m)))) h (pc' := 25) rfl (List.mem_cons_of_mem _ ml1_28) (List.mem_cons_of_mem _ nat_ac) (List.mem_cons_of_mem _ sta_ac) (List.mem_cons_of_mem _ ini_sys) 6 1 0 0 rfl rfl rfl rfl (by omega) (by omega) (by decide) (by decide) (by decide) (Nat.le_of_ble_eq_true rfl) d1_copyFrom_22 rfl ?_
  refine x_aload_n h (pc' := 26) rfl d1_copyFrom_25 1 rfl rfl ?_
  refine x_get h (pc' := 29) rfl (fun c q => List.mem_cons_of_mem _ (in1 c q)) 5 1 rfl rfl (by decide) (List.mem_cons_of_mem _ lk1_15) rfl rfl d1_copyFrom_26 ?_
  refine x_iconst (v := (nI 0)) h (pc' := 30) rfl d1_copyFrom_29 (by decide) ?_
  refine x_aload_n h (pc' := 31) rfl d1_copyFrom_30 0 rfl rfl ?_
  refine x_get h (pc' := 34) rfl (fun c q => List.mem_cons_of_mem _ (in1 c q)) 0 1 rfl rfl (by decide) (List.mem_cons_of_mem _ lk1_15) rfl rfl d1_copyFrom_31 ?_
  refine x_iconst (v := (nI 0)) h (pc' := 35) rfl d1_copyFrom_34 (by decide) ?_
  refine x_aload_n h (pc' := 36) rfl d1_copyFrom_35 0 rfl rfl ?_
  refine x_get h (pc' := 39) rfl (fun c q => List.mem_cons_of_mem _ (in1 c q)) 0 4 rfl rfl (by decide) (List.mem_cons_of_mem _ lk1_24) rfl rfl d1_copyFrom_36 ?_
  refine x_acpy (w' := ((wS o b1 b2 b3 b4 cI (va_cpy gk fk 0 0 m) (va_cpy gv fv 0 0 m) fr fd (nI m)) ++ (wS p q1 q2 q3 q4 cI gk gv gr gd (nI m)))) h (pc' := 42) rfl (List.mem_cons_of_mem _ ml1_28) (List.mem_cons_of_mem _ nat_ac) (List.mem_cons_of_mem _ sta_ac) (List.mem_cons_of_mem _ ini_sys) 7 2 0 0 rfl rfl rfl rfl (by omega) (by omega) (by decide) (by decide) (by decide) (Nat.le_of_ble_eq_true rfl) d1_copyFrom_39 rfl ?_
  refine x_aload_n h (pc' := 43) rfl d1_copyFrom_42 1 rfl rfl ?_
  refine x_get h (pc' := 46) rfl (fun c q => List.mem_cons_of_mem _ (in1 c q)) 5 2 rfl rfl (by decide) (List.mem_cons_of_mem _ lk1_18) rfl rfl d1_copyFrom_43 ?_
  refine x_iconst (v := (nI 0)) h (pc' := 47) rfl d1_copyFrom_46 (by decide) ?_
  refine x_aload_n h (pc' := 48) rfl d1_copyFrom_47 0 rfl rfl ?_
  refine x_get h (pc' := 51) rfl (fun c q => List.mem_cons_of_mem _ (in1 c q)) 0 2 rfl rfl (by decide) (List.mem_cons_of_mem _ lk1_18) rfl rfl d1_copyFrom_48 ?_
  refine x_iconst (v := (nI 0)) h (pc' := 52) rfl d1_copyFrom_51 (by decide) ?_
  refine x_aload_n h (pc' := 53) rfl d1_copyFrom_52 0 rfl rfl ?_
  refine x_get h (pc' := 56) rfl (fun c q => List.mem_cons_of_mem _ (in1 c q)) 0 4 rfl rfl (by decide) (List.mem_cons_of_mem _ lk1_24) rfl rfl d1_copyFrom_53 ?_
  refine x_acpy (w' := ((wS o b1 b2 b3 b4 cI (va_cpy gk fk 0 0 m) (va_cpy gv fv 0 0 m) (va_cpy gr fr 0 0 m) fd (nI m)) ++ (wS p q1 q2 q3 q4 cI gk gv gr gd (nI m)))) h (pc' := 59) rfl (List.mem_cons_of_mem _ ml1_28) (List.mem_cons_of_mem _ nat_ac) (List.mem_cons_of_mem _ sta_ac) (List.mem_cons_of_mem _ ini_sys) 8 3 0 0 rfl rfl rfl rfl (by omega) (by omega) (by decide) (by decide) (by decide) (Nat.le_of_ble_eq_true rfl) d1_copyFrom_56 rfl ?_
  refine x_aload_n h (pc' := 60) rfl d1_copyFrom_59 1 rfl rfl ?_
  refine x_get h (pc' := 63) rfl (fun c q => List.mem_cons_of_mem _ (in1 c q)) 5 3 rfl rfl (by decide) (List.mem_cons_of_mem _ lk1_21) rfl rfl d1_copyFrom_60 ?_
  refine x_iconst (v := (nI 0)) h (pc' := 64) rfl d1_copyFrom_63 (by decide) ?_
  refine x_aload_n h (pc' := 65) rfl d1_copyFrom_64 0 rfl rfl ?_
  refine x_get h (pc' := 68) rfl (fun c q => List.mem_cons_of_mem _ (in1 c q)) 0 3 rfl rfl (by decide) (List.mem_cons_of_mem _ lk1_21) rfl rfl d1_copyFrom_65 ?_
  refine x_iconst (v := (nI 0)) h (pc' := 69) rfl d1_copyFrom_68 (by decide) ?_
  refine x_aload_n h (pc' := 70) rfl d1_copyFrom_69 0 rfl rfl ?_
  refine x_get h (pc' := 73) rfl (fun c q => List.mem_cons_of_mem _ (in1 c q)) 0 4 rfl rfl (by decide) (List.mem_cons_of_mem _ lk1_24) rfl rfl d1_copyFrom_70 ?_
  refine x_acpy (w' := ((wS o b1 b2 b3 b4 cI (va_cpy gk fk 0 0 m) (va_cpy gv fv 0 0 m) (va_cpy gr fr 0 0 m) (va_cpy gd fd 0 0 m) (nI m)) ++ (wS p q1 q2 q3 q4 cI gk gv gr gd (nI m)))) h (pc' := 76) rfl (List.mem_cons_of_mem _ ml1_28) (List.mem_cons_of_mem _ nat_ac) (List.mem_cons_of_mem _ sta_ac) (List.mem_cons_of_mem _ ini_sys) 9 4 0 0 rfl rfl rfl rfl (by omega) (by omega) (by decide) (by decide) (by decide) (Nat.le_of_ble_eq_true rfl) d1_copyFrom_73 rfl ?_
  exact hret _ _ _ d1_copyFrom_76 rfl rfl
set_option maxRecDepth 100000 in
set_option maxHeartbeats 4000000 in
theorem k1_indexFrom (l : Launch) (D : va_G) (cI cZ cS : ClassId) (o b1 b2 b3 b4 : Nat) (fk fv fr fd : Nat → Int32) (n : Nat) (hn : n ≤ 30) (key : Int32) : CI l y1_indexFrom w1_indexFrom (rmd 0) D (TS3 cI cZ cS) [.ref o, .int key] (wS o b1 b2 b3 b4 cI fk fv fr fd (nI n)) (fun r w' => r = nI (lbN fk n key) ∧ w' = (wS o b1 b2 b3 b4 cI fk fv fr fd (nI n))) := by
  refine x_metI (lv := [(0, .ref o), (1, .int key)]) (by decide +kernel) rfl rfl (Nat.le_of_ble_eq_true rfl) rfl ?_
  intro X h hret
  have lp : ∀ f i : Nat, i + f = n → lbK fk n key = fndF (fun i => decide (key ≤ fk i)) f i → WX X 0 0 2 [(2, .int (nI i)), (0, .ref o), (1, .int key)] (wS o b1 b2 b3 b4 cI fk fv fr fd (nI n)) [] := by
    intro f
    induction f with
    | zero =>
      intro i hi e
      refine x_iload_n h (pc' := 3) rfl d1_indexFrom_2 0 rfl rfl ?_
      refine x_aload_n h (pc' := 4) rfl d1_indexFrom_3 1 rfl rfl ?_
      refine x_get h (pc' := 7) rfl (fun c q => List.mem_cons_of_mem _ (in1 c q)) 0 4 rfl rfl (by decide) (List.mem_cons_of_mem _ lk1_24) rfl rfl d1_indexFrom_4 ?_
      refine x_icmp_ge (tg := 26) h (pc' := 10) rfl d1_indexFrom_7 (by decide) (nI_leI (by omega) (by omega)) (fun c7 => ?_) (fun c7 => ?_)
      · skip
        refine x_iload_n h (pc' := 27) rfl d1_indexFrom_26 0 rfl rfl ?_
        exact hret _ _ _ _ d1_indexFrom_27 rfl ⟨by unfold lbN; rw [e]; show nI i = nI n; congr 1, rfl⟩
      · skip
        exact absurd c7 (by omega)
    | succ f ih =>
      intro i hi e
      refine x_iload_n h (pc' := 3) rfl d1_indexFrom_2 0 rfl rfl ?_
      refine x_aload_n h (pc' := 4) rfl d1_indexFrom_3 1 rfl rfl ?_
      refine x_get h (pc' := 7) rfl (fun c q => List.mem_cons_of_mem _ (in1 c q)) 0 4 rfl rfl (by decide) (List.mem_cons_of_mem _ lk1_24) rfl rfl d1_indexFrom_4 ?_
      refine x_icmp_ge (tg := 26) h (pc' := 10) rfl d1_indexFrom_7 (by decide) (nI_leI (by omega) (by omega)) (fun c7 => ?_) (fun c7 => ?_)
      · skip
        exact absurd c7 (by omega)
      · skip
        refine x_aload_n h (pc' := 11) rfl d1_indexFrom_10 1 rfl rfl ?_
        refine x_get h (pc' := 14) rfl (fun c q => List.mem_cons_of_mem _ (in1 c q)) 0 0 rfl rfl (by decide) (List.mem_cons_of_mem _ lk1_9) rfl rfl d1_indexFrom_11 ?_
        refine x_iload_n h (pc' := 15) rfl d1_indexFrom_14 0 rfl rfl ?_
        refine x_iald (v := (fk i)) h (pc' := 16) rfl 1 0 rfl rfl (by omega) (by decide) d1_indexFrom_15 rfl ?_
        refine x_iload_n h (pc' := 17) rfl d1_indexFrom_16 2 rfl rfl ?_
        refine x_icmp_ge (tg := 26) h (pc' := 20) rfl d1_indexFrom_17 (by decide) Iff.rfl (fun c17 => ?_) (fun c17 => ?_)
        · skip
          refine x_iload_n h (pc' := 27) rfl d1_indexFrom_26 0 rfl rfl ?_
          exact hret _ _ _ _ d1_indexFrom_27 rfl ⟨by unfold lbN; rw [e, fndF_hit (decide_eq_true c17)]; rfl, rfl⟩
        · skip
          refine x_iinc (lv' := [(2, .int (nI (i + 1))), (0, .ref o), (1, .int key)]) h (pc' := 23) rfl d1_indexFrom_20 0 rfl (n_inc i) (by decide) rfl ?_
          refine x_goto (pc' := 2) h d1_indexFrom_23 (by decide) ?_
          exact ih (i + 1) (by omega) (e.trans (fndF_miss (decide_eq_false c17)))
  refine x_iconst (v := (nI 0)) h (pc' := 1) rfl d1_indexFrom_0 (by decide) ?_
  refine x_istore_n (lv' := [(2, .int (nI 0)), (0, .ref o), (1, .int key)]) h (pc' := 2) rfl d1_indexFrom_1 rfl (by decide) rfl ?_
  exact lp n 0 (by omega) rfl
set_option maxRecDepth 100000 in
set_option maxHeartbeats 4000000 in
theorem k1_indexOf (l : Launch) (D : va_G) (cI cZ cS : ClassId) (o b1 b2 b3 b4 : Nat) (fk fv fr fd : Nat → Int32) (n : Nat) (hn : n ≤ 30) (hK : inc fk n) (key : Int32) : CI l y1_indexOf w1_indexOf (rmd 1) D (TS3 cI cZ cS) [.ref o, .int key] (wS o b1 b2 b3 b4 cI fk fv fr fd (nI n)) (fun r w' => r = enc1 (fnK fk n key) ∧ w' = (wS o b1 b2 b3 b4 cI fk fv fr fd (nI n))) := by
  refine x_metI (lv := [(0, .ref o), (1, .int key)]) (by decide +kernel) rfl rfl (Nat.le_of_ble_eq_true rfl) rfl ?_
  intro X h hret
  have hL := lbN_le fk n key
  refine x_aload_n h (pc' := 1) rfl d1_indexOf_0 0 rfl rfl ?_
  refine x_iload_n h (pc' := 2) rfl d1_indexOf_1 1 rfl rfl ?_
  -- indexFrom
  refine x_vI h (pc' := 5) rfl [.int key] (k1_indexFrom l D cI cZ cS o b1 b2 b3 b4 fk fv fr fd n (by omega) key) d1_indexOf_2 1 (gd_V ml1_34 im1_indexFrom se1_indexFrom ini1 cd1_indexFrom) rfl ⟨rfl, rfl⟩ hd1_indexFrom ⟨by decide, by decide⟩ ⟨Nat.zero_le _, Nat.zero_le _⟩ 0 rfl rfl rfl [0, 1, 2, 3, 4] rfl rfl rfl (Nat.le_of_ble_eq_true rfl) rfl (fun rr2 ww2 pp2 ee2 => ?_)
  obtain ⟨rfl, rfl⟩ := pp2
  refine x_w (w' := (wS o b1 b2 b3 b4 cI fk fv fr fd (nI n))) rfl ?_
  refine x_istore_n (lv' := [(2, .int (nI (lbN fk n key))), (0, .ref o), (1, .int key)]) h (pc' := 6) rfl d1_indexOf_5 rfl (by decide) rfl ?_
  refine x_iload_n h (pc' := 7) rfl d1_indexOf_6 0 rfl rfl ?_
  refine x_aload_n h (pc' := 8) rfl d1_indexOf_7 1 rfl rfl ?_
  refine x_get h (pc' := 11) rfl (fun c q => List.mem_cons_of_mem _ (in1 c q)) 0 4 rfl rfl (by decide) (List.mem_cons_of_mem _ lk1_24) rfl rfl d1_indexOf_8 ?_
  refine x_icmp_ge (tg := 28) h (pc' := 14) rfl d1_indexOf_11 (by decide) (nI_leI (by omega) (by omega)) (fun c11 => ?_) (fun c11 => ?_)
  · skip
    refine x_iconst (v := (-1)) h (pc' := 29) rfl d1_indexOf_28 (by decide) ?_
    exact hret _ _ _ _ d1_indexOf_29 rfl ⟨by rw [fnK_lbN hK, if_neg (by first | (intro q; exact absurd q.1 (by omega)) | (intro q; exact c21 q.2))]; rfl, rfl⟩
  · skip
    refine x_aload_n h (pc' := 15) rfl d1_indexOf_14 1 rfl rfl ?_
    refine x_get h (pc' := 18) rfl (fun c q => List.mem_cons_of_mem _ (in1 c q)) 0 0 rfl rfl (by decide) (List.mem_cons_of_mem _ lk1_9) rfl rfl d1_indexOf_15 ?_
    refine x_iload_n h (pc' := 19) rfl d1_indexOf_18 0 rfl rfl ?_
    refine x_iald (v := (fk (lbN fk n key))) h (pc' := 20) rfl 1 0 rfl rfl (by omega) (by decide) d1_indexOf_19 rfl ?_
    refine x_iload_n h (pc' := 21) rfl d1_indexOf_20 2 rfl rfl ?_
    refine x_icmp_ne (tg := 28) h (pc' := 24) rfl d1_indexOf_21 (by decide) Iff.rfl (fun c21 => ?_) (fun c21 => ?_)
    · skip
      refine x_iconst (v := (-1)) h (pc' := 29) rfl d1_indexOf_28 (by decide) ?_
      exact hret _ _ _ _ d1_indexOf_29 rfl ⟨by rw [fnK_lbN hK, if_neg (by first | (intro q; exact absurd q.1 (by omega)) | (intro q; exact c21 q.2))]; rfl, rfl⟩
    · skip
      refine x_iload_n h (pc' := 25) rfl d1_indexOf_24 0 rfl rfl ?_
      refine x_goto (pc' := 29) h d1_indexOf_25 (by decide) ?_
      exact hret _ _ _ _ d1_indexOf_29 rfl ⟨by rw [fnK_lbN hK, if_pos ⟨by omega, c21⟩]; rfl, rfl⟩
set_option maxRecDepth 100000 in
set_option maxHeartbeats 4000000 in
theorem k1_valueOf (l : Launch) (D : va_G) (cI cZ cS : ClassId) (o b1 b2 b3 b4 : Nat) (fk fv fr fd : Nat → Int32) (n : Nat) (hn : n ≤ 30) (hK : inc fk n) (key : Int32) : CI l y1_valueOf w1_valueOf (rmd 2) D (TS3 cI cZ cS) [.ref o, .int key] (wS o b1 b2 b3 b4 cI fk fv fr fd (nI n)) (fun r w' => r = (match fnK fk n key with | none => -4 | some i => fv i) ∧ w' = (wS o b1 b2 b3 b4 cI fk fv fr fd (nI n))) := by
  refine x_metI (lv := [(0, .ref o), (1, .int key)]) (by decide +kernel) rfl rfl (Nat.le_of_ble_eq_true rfl) rfl ?_
  intro X h hret
  refine x_aload_n h (pc' := 1) rfl d1_valueOf_0 0 rfl rfl ?_
  refine x_iload_n h (pc' := 2) rfl d1_valueOf_1 1 rfl rfl ?_
  -- indexOf
  refine x_vI h (pc' := 5) rfl [.int key] (k1_indexOf l D cI cZ cS o b1 b2 b3 b4 fk fv fr fd n (by omega) hK key) d1_valueOf_2 1 (gd_V ml1_38 im1_indexOf se1_indexOf ini1 cd1_indexOf) rfl ⟨rfl, rfl⟩ hd1_indexOf ⟨by decide, by decide⟩ ⟨Nat.zero_le _, Nat.zero_le _⟩ 0 rfl rfl rfl [0, 1, 2, 3, 4] rfl rfl rfl (Nat.le_of_ble_eq_true rfl) rfl (fun rr2 ww2 pp2 ee2 => ?_)
  obtain ⟨rfl, rfl⟩ := pp2
  rcases hq : fnK fk n key with _ | i
  · skip
    refine x_w (w' := (wS o b1 b2 b3 b4 cI fk fv fr fd (nI n))) rfl ?_
    refine x_top (y := (-1)) rfl ?_
    refine x_istore_n (lv' := [(2, .int (-1)), (0, .ref o), (1, .int key)]) h (pc' := 6) rfl d1_valueOf_5 rfl (by decide) rfl ?_
    refine x_iload_n h (pc' := 7) rfl d1_valueOf_6 0 rfl rfl ?_
    refine x_iconst (v := (-1)) h (pc' := 8) rfl d1_valueOf_7 (by decide) ?_
    refine x_icmp_ne (tg := 16) h (pc' := 11) rfl d1_valueOf_8 (by decide) Iff.rfl (fun c8 => ?_) (fun c8 => ?_)
    · skip
      exact absurd rfl c8
    · skip
      refine x_bipush (v := (-4)) h (pc' := 13) rfl d1_valueOf_11 (by decide) ?_
      refine x_goto (pc' := 22) h d1_valueOf_13 (by decide) ?_
      exact hret _ _ _ _ d1_valueOf_22 rfl ⟨by rw [hq] <;> rfl, rfl⟩
  · skip
    have hb := fnK_some hq
    refine x_w (w' := (wS o b1 b2 b3 b4 cI fk fv fr fd (nI n))) rfl ?_
    refine x_top (y := (nI i)) rfl ?_
    refine x_istore_n (lv' := [(2, .int (nI i)), (0, .ref o), (1, .int key)]) h (pc' := 6) rfl d1_valueOf_5 rfl (by decide) rfl ?_
    refine x_iload_n h (pc' := 7) rfl d1_valueOf_6 0 rfl rfl ?_
    refine x_iconst (v := (-1)) h (pc' := 8) rfl d1_valueOf_7 (by decide) ?_
    refine x_icmp_ne (tg := 16) h (pc' := 11) rfl d1_valueOf_8 (by decide) (n_m1 (by omega)) (fun c8 => ?_) (fun c8 => ?_)
    · skip
      refine x_aload_n h (pc' := 17) rfl d1_valueOf_16 1 rfl rfl ?_
      refine x_get h (pc' := 20) rfl (fun c q => List.mem_cons_of_mem _ (in1 c q)) 0 1 rfl rfl (by decide) (List.mem_cons_of_mem _ lk1_15) rfl rfl d1_valueOf_17 ?_
      refine x_iload_n h (pc' := 21) rfl d1_valueOf_20 0 rfl rfl ?_
      refine x_iald (v := (fv i)) h (pc' := 22) rfl 2 0 rfl rfl (by omega) (by decide) d1_valueOf_21 rfl ?_
      exact hret _ _ _ _ d1_valueOf_22 rfl ⟨by rw [hq] <;> rfl, rfl⟩
    · skip
      exact c8.elim
set_option maxRecDepth 100000 in
set_option maxHeartbeats 4000000 in
theorem k1_keyFrom (l : Launch) (D : va_G) (cI cZ cS : ClassId) (o b1 b2 b3 b4 : Nat) (fk fv fr fd : Nat → Int32) (n : Nat) (hn : n ≤ 30) (key : Int32) : CI l y1_keyFrom w1_keyFrom (rmd 1) D (TS3 cI cZ cS) [.ref o, .int key] (wS o b1 b2 b3 b4 cI fk fv fr fd (nI n)) (fun r w' => r = (match lbK fk n key with | none => -4 | some i => fk i) ∧ w' = (wS o b1 b2 b3 b4 cI fk fv fr fd (nI n))) := by
  refine x_metI (lv := [(0, .ref o), (1, .int key)]) (by decide +kernel) rfl rfl (Nat.le_of_ble_eq_true rfl) rfl ?_
  intro X h hret
  have hL := lbN_le fk n key
  refine x_aload_n h (pc' := 1) rfl d1_keyFrom_0 0 rfl rfl ?_
  refine x_iload_n h (pc' := 2) rfl d1_keyFrom_1 1 rfl rfl ?_
  -- indexFrom
  refine x_vI h (pc' := 5) rfl [.int key] (k1_indexFrom l D cI cZ cS o b1 b2 b3 b4 fk fv fr fd n (by omega) key) d1_keyFrom_2 1 (gd_V ml1_34 im1_indexFrom se1_indexFrom ini1 cd1_indexFrom) rfl ⟨rfl, rfl⟩ hd1_indexFrom ⟨by decide, by decide⟩ ⟨Nat.zero_le _, Nat.zero_le _⟩ 0 rfl rfl rfl [0, 1, 2, 3, 4] rfl rfl rfl (Nat.le_of_ble_eq_true rfl) rfl (fun rr2 ww2 pp2 ee2 => ?_)
  obtain ⟨rfl, rfl⟩ := pp2
  refine x_w (w' := (wS o b1 b2 b3 b4 cI fk fv fr fd (nI n))) rfl ?_
  refine x_istore_n (lv' := [(2, .int (nI (lbN fk n key))), (0, .ref o), (1, .int key)]) h (pc' := 6) rfl d1_keyFrom_5 rfl (by decide) rfl ?_
  refine x_iload_n h (pc' := 7) rfl d1_keyFrom_6 0 rfl rfl ?_
  refine x_aload_n h (pc' := 8) rfl d1_keyFrom_7 1 rfl rfl ?_
  refine x_get h (pc' := 11) rfl (fun c q => List.mem_cons_of_mem _ (in1 c q)) 0 4 rfl rfl (by decide) (List.mem_cons_of_mem _ lk1_24) rfl rfl d1_keyFrom_8 ?_
  refine x_icmp_ge (tg := 23) h (pc' := 14) rfl d1_keyFrom_11 (by decide) (nI_leI (by omega) (by omega)) (fun c11 => ?_) (fun c11 => ?_)
  · skip
    refine x_bipush (v := (-4)) h (pc' := 25) rfl d1_keyFrom_23 (by decide) ?_
    rcases hl : lbK fk n key with _ | i
    · skip
      have hN : lbN fk n key = n := by unfold lbN; rw [hl]; rfl
      exact hret _ _ _ _ d1_keyFrom_25 rfl ⟨by rw [hl], rfl⟩
    · skip
      have hN : lbN fk n key = i := by unfold lbN; rw [hl]; rfl
      have hi := (fndF_some n 0 i hl).2.1
      exact absurd c11 (by omega)
  · skip
    refine x_aload_n h (pc' := 15) rfl d1_keyFrom_14 1 rfl rfl ?_
    refine x_get h (pc' := 18) rfl (fun c q => List.mem_cons_of_mem _ (in1 c q)) 0 0 rfl rfl (by decide) (List.mem_cons_of_mem _ lk1_9) rfl rfl d1_keyFrom_15 ?_
    refine x_iload_n h (pc' := 19) rfl d1_keyFrom_18 0 rfl rfl ?_
    refine x_iald (v := (fk (lbN fk n key))) h (pc' := 20) rfl 1 0 rfl rfl (by omega) (by decide) d1_keyFrom_19 rfl ?_
    refine x_goto (pc' := 25) h d1_keyFrom_20 (by decide) ?_
    rcases hl : lbK fk n key with _ | i
    · skip
      have hN : lbN fk n key = n := by unfold lbN; rw [hl]; rfl
      exact absurd c11 (by omega)
    · skip
      have hN : lbN fk n key = i := by unfold lbN; rw [hl]; rfl
      have hi := (fndF_some n 0 i hl).2.1
      exact hret _ _ _ _ d1_keyFrom_25 rfl ⟨by rw [hl, hN], rfl⟩
set_option maxRecDepth 100000 in
set_option maxHeartbeats 4000000 in
theorem k1_moveEntry (l : Launch) (D : va_G) (cI cZ cS : ClassId) (o b1 b2 b3 b4 : Nat) (fk fv fr fd : Nat → Int32) (n : Nat) (hn : n ≤ 30) (a t : Nat) (ha : a < 30) (ht : t < 30) : CV l y1_moveEntry w1_moveEntry (rmd 0) D (TS3 cI cZ cS) [.ref o, .int (nI a), .int (nI t)] (wS o b1 b2 b3 b4 cI fk fv fr fd (nI n)) (fun w' => w' = (wS o b1 b2 b3 b4 cI (upd fk t (fk a)) (upd fv t (fv a)) (upd fr t (fr a)) (upd fd t (fd a)) (nI n))) := by
  refine x_metV (lv := [(0, .ref o), (1, .int (nI a)), (2, .int (nI t))]) (by decide +kernel) rfl rfl (Nat.le_of_ble_eq_true rfl) rfl ?_
  intro X h hret
  refine x_aload_n h (pc' := 1) rfl d1_moveEntry_0 0 rfl rfl ?_
  refine x_get h (pc' := 4) rfl (fun c q => List.mem_cons_of_mem _ (in1 c q)) 0 0 rfl rfl (by decide) (List.mem_cons_of_mem _ lk1_9) rfl rfl d1_moveEntry_1 ?_
  refine x_iload_n h (pc' := 5) rfl d1_moveEntry_4 2 rfl rfl ?_
  refine x_aload_n h (pc' := 6) rfl d1_moveEntry_5 0 rfl rfl ?_
  refine x_get h (pc' := 9) rfl (fun c q => List.mem_cons_of_mem _ (in1 c q)) 0 0 rfl rfl (by decide) (List.mem_cons_of_mem _ lk1_9) rfl rfl d1_moveEntry_6 ?_
  refine x_iload_n h (pc' := 10) rfl d1_moveEntry_9 1 rfl rfl ?_
  refine x_iald (v := (fk a)) h (pc' := 11) rfl 1 0 rfl rfl (by omega) (by decide) d1_moveEntry_10 rfl ?_
  refine x_iast (w' := (wS o b1 b2 b3 b4 cI (upd fk t (fk a)) fv fr fd (nI n))) h (pc' := 12) rfl 1 0 rfl rfl (by omega) (by decide) d1_moveEntry_11 rfl ?_
  refine x_aload_n h (pc' := 13) rfl d1_moveEntry_12 0 rfl rfl ?_
  refine x_get h (pc' := 16) rfl (fun c q => List.mem_cons_of_mem _ (in1 c q)) 0 1 rfl rfl (by decide) (List.mem_cons_of_mem _ lk1_15) rfl rfl d1_moveEntry_13 ?_
  refine x_iload_n h (pc' := 17) rfl d1_moveEntry_16 2 rfl rfl ?_
  refine x_aload_n h (pc' := 18) rfl d1_moveEntry_17 0 rfl rfl ?_
  refine x_get h (pc' := 21) rfl (fun c q => List.mem_cons_of_mem _ (in1 c q)) 0 1 rfl rfl (by decide) (List.mem_cons_of_mem _ lk1_15) rfl rfl d1_moveEntry_18 ?_
  refine x_iload_n h (pc' := 22) rfl d1_moveEntry_21 1 rfl rfl ?_
  refine x_iald (v := (fv a)) h (pc' := 23) rfl 2 0 rfl rfl (by omega) (by decide) d1_moveEntry_22 rfl ?_
  refine x_iast (w' := (wS o b1 b2 b3 b4 cI (upd fk t (fk a)) (upd fv t (fv a)) fr fd (nI n))) h (pc' := 24) rfl 2 0 rfl rfl (by omega) (by decide) d1_moveEntry_23 rfl ?_
  refine x_aload_n h (pc' := 25) rfl d1_moveEntry_24 0 rfl rfl ?_
  refine x_get h (pc' := 28) rfl (fun c q => List.mem_cons_of_mem _ (in1 c q)) 0 2 rfl rfl (by decide) (List.mem_cons_of_mem _ lk1_18) rfl rfl d1_moveEntry_25 ?_
  refine x_iload_n h (pc' := 29) rfl d1_moveEntry_28 2 rfl rfl ?_
  refine x_aload_n h (pc' := 30) rfl d1_moveEntry_29 0 rfl rfl ?_
  refine x_get h (pc' := 33) rfl (fun c q => List.mem_cons_of_mem _ (in1 c q)) 0 2 rfl rfl (by decide) (List.mem_cons_of_mem _ lk1_18) rfl rfl d1_moveEntry_30 ?_
  refine x_iload_n h (pc' := 34) rfl d1_moveEntry_33 1 rfl rfl ?_
  refine x_iald (v := (fr a)) h (pc' := 35) rfl 3 0 rfl rfl (by omega) (by decide) d1_moveEntry_34 rfl ?_
  refine x_iast (w' := (wS o b1 b2 b3 b4 cI (upd fk t (fk a)) (upd fv t (fv a)) (upd fr t (fr a)) fd (nI n))) h (pc' := 36) rfl 3 0 rfl rfl (by omega) (by decide) d1_moveEntry_35 rfl ?_
  refine x_aload_n h (pc' := 37) rfl d1_moveEntry_36 0 rfl rfl ?_
  refine x_get h (pc' := 40) rfl (fun c q => List.mem_cons_of_mem _ (in1 c q)) 0 3 rfl rfl (by decide) (List.mem_cons_of_mem _ lk1_21) rfl rfl d1_moveEntry_37 ?_
  refine x_iload_n h (pc' := 41) rfl d1_moveEntry_40 2 rfl rfl ?_
  refine x_aload_n h (pc' := 42) rfl d1_moveEntry_41 0 rfl rfl ?_
  refine x_get h (pc' := 45) rfl (fun c q => List.mem_cons_of_mem _ (in1 c q)) 0 3 rfl rfl (by decide) (List.mem_cons_of_mem _ lk1_21) rfl rfl d1_moveEntry_42 ?_
  refine x_iload_n h (pc' := 46) rfl d1_moveEntry_45 1 rfl rfl ?_
  refine x_iald (v := (fd a)) h (pc' := 47) rfl 4 0 rfl rfl (by omega) (by decide) d1_moveEntry_46 rfl ?_
  refine x_iast (w' := (wS o b1 b2 b3 b4 cI (upd fk t (fk a)) (upd fv t (fv a)) (upd fr t (fr a)) (upd fd t (fd a)) (nI n))) h (pc' := 48) rfl 4 0 rfl rfl (by omega) (by decide) d1_moveEntry_47 rfl ?_
  exact hret _ _ _ d1_moveEntry_48 rfl rfl
set_option maxRecDepth 100000 in
set_option maxHeartbeats 4000000 in
theorem k1_insert (l : Launch) (D : va_G) (cI cZ cS : ClassId) (o b1 b2 b3 b4 : Nat) (fk fv fr fd : Nat → Int32) (n : Nat) (hn : n ≤ 29) (key value : Int32) : CV l y1_insert w1_insert (rmd 1) D (TS3 cI cZ cS) [.ref o, .int key, .int value] (wS o b1 b2 b3 b4 cI fk fv fr fd (nI n)) (fun w' => w' = (wS o b1 b2 b3 b4 cI (insF fk (lbN fk n key) n key) (insF fv (lbN fk n key) n value) (insF fr (lbN fk n key) n (rk key)) (insF fd (lbN fk n key) n (-1)) (nI (n + 1)))) := by
  refine x_metV (lv := [(0, .ref o), (1, .int key), (2, .int value)]) (by decide +kernel) rfl rfl (Nat.le_of_ble_eq_true rfl) rfl ?_
  intro X h hret
  have hL := lbN_le fk n key
  have hn3 : n ≤ 30 := by omega
  have lp : ∀ f t : Nat, lbN fk n key + f = t → t ≤ n → WX X 0 0 22 [(4, .int (nI t)), (3, .int (nI (lbN fk n key))), (0, .ref o), (1, .int key), (2, .int value)] (wS o b1 b2 b3 b4 cI (shF fk t n) (shF fv t n) (shF fr t n) (shF fd t n) (nI n)) [] := by
    intro f
    induction f with
    | zero =>
      intro t ht hn2
      obtain rfl : t = lbN fk n key := by omega
      refine x_iload h (pc' := 24) rfl d1_insert_22 0 rfl ?_
      refine x_iload_n h (pc' := 25) rfl d1_insert_24 1 rfl rfl ?_
      refine x_icmp_le (tg := 44) h (pc' := 28) rfl d1_insert_25 (by decide) (nI_leI (by omega) (by omega)) (fun c25 => ?_) (fun c25 => ?_)
      · skip
        refine x_aload_n h (pc' := 45) rfl d1_insert_44 2 rfl rfl ?_
        refine x_get h (pc' := 48) rfl (fun c q => List.mem_cons_of_mem _ (in1 c q)) 0 0 rfl rfl (by decide) (List.mem_cons_of_mem _ lk1_9) rfl rfl d1_insert_45 ?_
        refine x_iload_n h (pc' := 49) rfl d1_insert_48 1 rfl rfl ?_
        refine x_iload_n h (pc' := 50) rfl d1_insert_49 3 rfl rfl ?_
        refine x_iast (w' := (wS o b1 b2 b3 b4 cI (upd (shF fk (lbN fk n key) n) (lbN fk n key) key) (shF fv (lbN fk n key) n) (shF fr (lbN fk n key) n) (shF fd (lbN fk n key) n) (nI n))) h (pc' := 51) rfl 1 0 rfl rfl (by omega) (by decide) d1_insert_50 rfl ?_
        refine x_aload_n h (pc' := 52) rfl d1_insert_51 2 rfl rfl ?_
        refine x_get h (pc' := 55) rfl (fun c q => List.mem_cons_of_mem _ (in1 c q)) 0 1 rfl rfl (by decide) (List.mem_cons_of_mem _ lk1_15) rfl rfl d1_insert_52 ?_
        refine x_iload_n h (pc' := 56) rfl d1_insert_55 1 rfl rfl ?_
        refine x_iload_n h (pc' := 57) rfl d1_insert_56 4 rfl rfl ?_
        refine x_iast (w' := (wS o b1 b2 b3 b4 cI (upd (shF fk (lbN fk n key) n) (lbN fk n key) key) (upd (shF fv (lbN fk n key) n) (lbN fk n key) value) (shF fr (lbN fk n key) n) (shF fd (lbN fk n key) n) (nI n))) h (pc' := 58) rfl 2 0 rfl rfl (by omega) (by decide) d1_insert_57 rfl ?_
        refine x_aload_n h (pc' := 59) rfl d1_insert_58 2 rfl rfl ?_
        refine x_get h (pc' := 62) rfl (fun c q => List.mem_cons_of_mem _ (in1 c q)) 0 2 rfl rfl (by decide) (List.mem_cons_of_mem _ lk1_18) rfl rfl d1_insert_59 ?_
        refine x_iload_n h (pc' := 63) rfl d1_insert_62 1 rfl rfl ?_
        refine x_iload_n h (pc' := 64) rfl d1_insert_63 3 rfl rfl ?_
        -- rankOf
        refine x_sI h (pc' := 67) rfl [.int key] (k1_rankOf l D cI cZ cS key) d1_insert_64 1 (gd_S ml1_45 st1_rankOf ini1 cd1_rankOf) rfl ⟨rfl, rfl⟩ hd1_rankOf ⟨by decide, by decide⟩ ⟨Nat.zero_le _, Nat.zero_le _⟩ [] rfl rfl rfl (Nat.le_of_ble_eq_true rfl) rfl (fun rr64 ww64 pp64 ee64 => ?_)
        obtain ⟨rfl, rfl⟩ := pp64
        refine x_w (w' := (wS o b1 b2 b3 b4 cI (upd (shF fk (lbN fk n key) n) (lbN fk n key) key) (upd (shF fv (lbN fk n key) n) (lbN fk n key) value) (shF fr (lbN fk n key) n) (shF fd (lbN fk n key) n) (nI n))) rfl ?_
        refine x_iast (w' := (wS o b1 b2 b3 b4 cI (upd (shF fk (lbN fk n key) n) (lbN fk n key) key) (upd (shF fv (lbN fk n key) n) (lbN fk n key) value) (upd (shF fr (lbN fk n key) n) (lbN fk n key) (rk key)) (shF fd (lbN fk n key) n) (nI n))) h (pc' := 68) rfl 3 0 rfl rfl (by omega) (by decide) d1_insert_67 rfl ?_
        refine x_aload_n h (pc' := 69) rfl d1_insert_68 2 rfl rfl ?_
        refine x_get h (pc' := 72) rfl (fun c q => List.mem_cons_of_mem _ (in1 c q)) 0 3 rfl rfl (by decide) (List.mem_cons_of_mem _ lk1_21) rfl rfl d1_insert_69 ?_
        refine x_iload_n h (pc' := 73) rfl d1_insert_72 1 rfl rfl ?_
        refine x_iconst (v := (-1)) h (pc' := 74) rfl d1_insert_73 (by decide) ?_
        refine x_iast (w' := (wS o b1 b2 b3 b4 cI (upd (shF fk (lbN fk n key) n) (lbN fk n key) key) (upd (shF fv (lbN fk n key) n) (lbN fk n key) value) (upd (shF fr (lbN fk n key) n) (lbN fk n key) (rk key)) (upd (shF fd (lbN fk n key) n) (lbN fk n key) (-1)) (nI n))) h (pc' := 75) rfl 4 0 rfl rfl (by omega) (by decide) d1_insert_74 rfl ?_
        refine x_aload_n h (pc' := 76) rfl d1_insert_75 2 rfl rfl ?_
        refine x_dup h (pc' := 77) rfl d1_insert_76 rfl ?_
        refine x_get h (pc' := 80) rfl (fun c q => List.mem_cons_of_mem _ (in1 c q)) 0 4 rfl rfl (by decide) (List.mem_cons_of_mem _ lk1_24) rfl rfl d1_insert_77 ?_
        refine x_iconst (v := (nI 1)) h (pc' := 81) rfl d1_insert_80 (by decide) ?_
        refine x_iadd (z := (nI (n + 1))) h (pc' := 82) rfl d1_insert_81 (nI_add n 1) ?_
        refine x_put (w' := (wS o b1 b2 b3 b4 cI (upd (shF fk (lbN fk n key) n) (lbN fk n key) key) (upd (shF fv (lbN fk n key) n) (lbN fk n key) value) (upd (shF fr (lbN fk n key) n) (lbN fk n key) (rk key)) (upd (shF fd (lbN fk n key) n) (lbN fk n key) (-1)) (nI (n + 1)))) (ty := .int) h (pc' := 85) rfl (fun c q => List.mem_cons_of_mem _ (in1 c q)) ok1 nm1 0 4 rfl rfl (by decide) (List.mem_cons_of_mem _ lk1_24) rfl rfl rfl rfl rfl (Nat.le_of_ble_eq_true rfl) rfl d1_insert_82 ?_
        exact hret _ _ _ d1_insert_85 rfl (by rw [shF_ins, shF_ins, shF_ins, shF_ins])
      · skip
        exact absurd c25 (by omega)
    | succ f ih =>
      intro t ht hn2
      obtain ⟨u, rfl⟩ : ∃ u, t = u + 1 := ⟨t - 1, by omega⟩
      refine x_iload h (pc' := 24) rfl d1_insert_22 0 rfl ?_
      refine x_iload_n h (pc' := 25) rfl d1_insert_24 1 rfl rfl ?_
      refine x_icmp_le (tg := 44) h (pc' := 28) rfl d1_insert_25 (by decide) (nI_leI (by omega) (by omega)) (fun c25 => ?_) (fun c25 => ?_)
      · skip
        exact absurd c25 (by omega)
      · skip
        refine x_aload_n h (pc' := 29) rfl d1_insert_28 2 rfl rfl ?_
        refine x_iload h (pc' := 31) rfl d1_insert_29 0 rfl ?_
        refine x_iconst (v := (nI 1)) h (pc' := 32) rfl d1_insert_31 (by decide) ?_
        refine x_isub (z := (nI ((u + 1) - 1))) h (pc' := 33) rfl d1_insert_32 (pk_sub (by omega)) ?_
        refine x_top (y := (nI u)) (congrArg nI (by omega)) ?_
        refine x_iload h (pc' := 35) rfl d1_insert_33 0 rfl ?_
        -- moveEntry
        refine x_vV h (pc' := 38) rfl [.int (nI u), .int (nI (u + 1))] (k1_moveEntry l D cI cZ cS o b1 b2 b3 b4 (shF fk (u + 1) n) (shF fv (u + 1) n) (shF fr (u + 1) n) (shF fd (u + 1) n) n (by omega) (u) (u + 1) (by omega) (by omega)) d1_insert_35 2 (gd_V ml1_41 im1_moveEntry se1_moveEntry ini1 cd1_moveEntry) rfl ⟨rfl, rfl⟩ hd1_moveEntry ⟨by decide, by decide⟩ ⟨Nat.zero_le _, Nat.zero_le _⟩ 0 rfl rfl rfl [0, 1, 2, 3, 4] rfl rfl rfl (Nat.le_of_ble_eq_true rfl) rfl (fun ww35 pp35 ee35 => ?_)
        subst pp35
        refine x_w (w' := (wS o b1 b2 b3 b4 cI (upd (shF fk (u + 1) n) (u + 1) ((shF fk (u + 1) n) u)) (upd (shF fv (u + 1) n) (u + 1) ((shF fv (u + 1) n) u)) (upd (shF fr (u + 1) n) (u + 1) ((shF fr (u + 1) n) u)) (upd (shF fd (u + 1) n) (u + 1) ((shF fd (u + 1) n) u)) (nI n))) rfl ?_
        refine x_iinc (lv' := [(4, .int (nI u)), (3, .int (nI (lbN fk n key))), (0, .ref o), (1, .int key), (2, .int value)]) h (pc' := 41) rfl d1_insert_38 0 rfl (n_decE (by omega)) (by decide) rfl ?_
        refine x_goto (pc' := 22) h d1_insert_41 (by decide) ?_
        refine x_w (w' := (wS o b1 b2 b3 b4 cI (shF fk u n) (shF fv u n) (shF fr u n) (shF fd u n) (nI n))) (by rw [shF_step fk (by omega), shF_step fv (by omega), shF_step fr (by omega), shF_step fd (by omega)]) ?_
        exact ih u (by omega) (by omega)
  refine x_aload_n h (pc' := 1) rfl d1_insert_0 0 rfl rfl ?_
  refine x_get h (pc' := 4) rfl (fun c q => List.mem_cons_of_mem _ (in1 c q)) 0 4 rfl rfl (by decide) (List.mem_cons_of_mem _ lk1_24) rfl rfl d1_insert_1 ?_
  refine x_bipush (v := (nI 30)) h (pc' := 6) rfl d1_insert_4 (by decide) ?_
  refine x_icmp_lt (tg := 10) h (pc' := 9) rfl d1_insert_6 (by decide) (nI_ltI (by omega) (by omega)) (fun c6 => ?_) (fun c6 => ?_)
  · skip
    refine x_aload_n h (pc' := 11) rfl d1_insert_10 0 rfl rfl ?_
    refine x_iload_n h (pc' := 12) rfl d1_insert_11 1 rfl rfl ?_
    -- indexFrom
    refine x_vI h (pc' := 15) rfl [.int key] (k1_indexFrom l D cI cZ cS o b1 b2 b3 b4 fk fv fr fd n (by omega) key) d1_insert_12 1 (gd_V ml1_34 im1_indexFrom se1_indexFrom ini1 cd1_indexFrom) rfl ⟨rfl, rfl⟩ hd1_indexFrom ⟨by decide, by decide⟩ ⟨Nat.zero_le _, Nat.zero_le _⟩ 0 rfl rfl rfl [0, 1, 2, 3, 4] rfl rfl rfl (Nat.le_of_ble_eq_true rfl) rfl (fun rr12 ww12 pp12 ee12 => ?_)
    obtain ⟨rfl, rfl⟩ := pp12
    refine x_w (w' := (wS o b1 b2 b3 b4 cI fk fv fr fd (nI n))) rfl ?_
    refine x_istore_n (lv' := [(3, .int (nI (lbN fk n key))), (0, .ref o), (1, .int key), (2, .int value)]) h (pc' := 16) rfl d1_insert_15 rfl (by decide) rfl ?_
    refine x_aload_n h (pc' := 17) rfl d1_insert_16 1 rfl rfl ?_
    refine x_get h (pc' := 20) rfl (fun c q => List.mem_cons_of_mem _ (in1 c q)) 0 4 rfl rfl (by decide) (List.mem_cons_of_mem _ lk1_24) rfl rfl d1_insert_17 ?_
    refine x_istore (lv' := [(4, .int (nI n)), (3, .int (nI (lbN fk n key))), (0, .ref o), (1, .int key), (2, .int value)]) h (pc' := 22) rfl d1_insert_20 (by decide) rfl ?_
    refine x_lv (lv' := [(4, .int (nI n)), (3, .int (nI (lbN fk n key))), (0, .ref o), (1, .int key), (2, .int value)]) [0, 1, 2, 3, 4] rfl ?_
    refine x_w (w' := (wS o b1 b2 b3 b4 cI (shF fk n n) (shF fv n n) (shF fr n n) (shF fd n n) (nI n))) (by rw [shF_nn, shF_nn, shF_nn, shF_nn]) ?_
    exact lp (n - lbN fk n key) n (by omega) (Nat.le_refl n)
  · skip
    exact absurd c6 (by omega)
set_option maxRecDepth 100000 in
set_option maxHeartbeats 4000000 in
theorem k1_removeAt (l : Launch) (D : va_G) (cI cZ cS : ClassId) (o b1 b2 b3 b4 : Nat) (fk fv fr fd : Nat → Int32) (n : Nat) (hn : n ≤ 30) (a : Nat) (ha : a < n) : CV l y1_removeAt w1_removeAt (rmd 1) D (TS3 cI cZ cS) [.ref o, .int (nI a)] (wS o b1 b2 b3 b4 cI fk fv fr fd (nI n)) (fun w' => w' = (wS o b1 b2 b3 b4 cI (sdF fk a (n - 1)) (sdF fv a (n - 1)) (sdF fr a (n - 1)) (sdF fd a (n - 1)) (nI (n - 1)))) := by
  refine x_metV (lv := [(0, .ref o), (1, .int (nI a))]) (by decide +kernel) rfl rfl (Nat.le_of_ble_eq_true rfl) rfl ?_
  intro X h hret
  have lp : ∀ f b : Nat, a ≤ b → b + f + 1 = n → WX X 0 0 2 [(2, .int (nI b)), (0, .ref o), (1, .int (nI a))] (wS o b1 b2 b3 b4 cI (sdF fk a b) (sdF fv a b) (sdF fr a b) (sdF fd a b) (nI n)) [] := by
    intro f
    induction f with
    | zero =>
      intro b hb1 hb2
      obtain rfl : b = n - 1 := by omega
      refine x_iload_n h (pc' := 3) rfl d1_removeAt_2 0 rfl rfl ?_
      refine x_aload_n h (pc' := 4) rfl d1_removeAt_3 1 rfl rfl ?_
      refine x_get h (pc' := 7) rfl (fun c q => List.mem_cons_of_mem _ (in1 c q)) 0 4 rfl rfl (by decide) (List.mem_cons_of_mem _ lk1_24) rfl rfl d1_removeAt_4 ?_
      refine x_iconst (v := (nI 1)) h (pc' := 8) rfl d1_removeAt_7 (by decide) ?_
      refine x_isub (z := (nI (n - 1))) h (pc' := 9) rfl d1_removeAt_8 (pk_sub (by omega)) ?_
      refine x_icmp_ge (tg := 26) h (pc' := 12) rfl d1_removeAt_9 (by decide) (nI_leI (by omega) (by omega)) (fun c9 => ?_) (fun c9 => ?_)
      · skip
        refine x_aload_n h (pc' := 27) rfl d1_removeAt_26 1 rfl rfl ?_
        refine x_dup h (pc' := 28) rfl d1_removeAt_27 rfl ?_
        refine x_get h (pc' := 31) rfl (fun c q => List.mem_cons_of_mem _ (in1 c q)) 0 4 rfl rfl (by decide) (List.mem_cons_of_mem _ lk1_24) rfl rfl d1_removeAt_28 ?_
        refine x_iconst (v := (nI 1)) h (pc' := 32) rfl d1_removeAt_31 (by decide) ?_
        refine x_isub (z := (nI (n - 1))) h (pc' := 33) rfl d1_removeAt_32 (pk_sub (by omega)) ?_
        refine x_put (w' := (wS o b1 b2 b3 b4 cI (sdF fk a (n - 1)) (sdF fv a (n - 1)) (sdF fr a (n - 1)) (sdF fd a (n - 1)) (nI (n - 1)))) (ty := .int) h (pc' := 36) rfl (fun c q => List.mem_cons_of_mem _ (in1 c q)) ok1 nm1 0 4 rfl rfl (by decide) (List.mem_cons_of_mem _ lk1_24) rfl rfl rfl rfl rfl (Nat.le_of_ble_eq_true rfl) rfl d1_removeAt_33 ?_
        exact hret _ _ _ d1_removeAt_36 rfl rfl
      · skip
        exact absurd c9 (by omega)
    | succ f ih =>
      intro b hb1 hb2
      refine x_iload_n h (pc' := 3) rfl d1_removeAt_2 0 rfl rfl ?_
      refine x_aload_n h (pc' := 4) rfl d1_removeAt_3 1 rfl rfl ?_
      refine x_get h (pc' := 7) rfl (fun c q => List.mem_cons_of_mem _ (in1 c q)) 0 4 rfl rfl (by decide) (List.mem_cons_of_mem _ lk1_24) rfl rfl d1_removeAt_4 ?_
      refine x_iconst (v := (nI 1)) h (pc' := 8) rfl d1_removeAt_7 (by decide) ?_
      refine x_isub (z := (nI (n - 1))) h (pc' := 9) rfl d1_removeAt_8 (pk_sub (by omega)) ?_
      refine x_icmp_ge (tg := 26) h (pc' := 12) rfl d1_removeAt_9 (by decide) (nI_leI (by omega) (by omega)) (fun c9 => ?_) (fun c9 => ?_)
      · skip
        exact absurd c9 (by omega)
      · skip
        refine x_aload_n h (pc' := 13) rfl d1_removeAt_12 1 rfl rfl ?_
        refine x_iload_n h (pc' := 14) rfl d1_removeAt_13 0 rfl rfl ?_
        refine x_iconst (v := (nI 1)) h (pc' := 15) rfl d1_removeAt_14 (by decide) ?_
        refine x_iadd (z := (nI (b + 1))) h (pc' := 16) rfl d1_removeAt_15 (nI_add b 1) ?_
        refine x_iload_n h (pc' := 17) rfl d1_removeAt_16 0 rfl rfl ?_
        -- moveEntry
        refine x_vV h (pc' := 20) rfl [.int (nI (b + 1)), .int (nI b)] (k1_moveEntry l D cI cZ cS o b1 b2 b3 b4 (sdF fk a b) (sdF fv a b) (sdF fr a b) (sdF fd a b) n (by omega) (b + 1) (b) (by omega) (by omega)) d1_removeAt_17 2 (gd_V ml1_41 im1_moveEntry se1_moveEntry ini1 cd1_moveEntry) rfl ⟨rfl, rfl⟩ hd1_moveEntry ⟨by decide, by decide⟩ ⟨Nat.zero_le _, Nat.zero_le _⟩ 0 rfl rfl rfl [0, 1, 2, 3, 4] rfl rfl rfl (Nat.le_of_ble_eq_true rfl) rfl (fun ww17 pp17 ee17 => ?_)
        subst pp17
        refine x_w (w' := (wS o b1 b2 b3 b4 cI (upd (sdF fk a b) b ((sdF fk a b) (b + 1))) (upd (sdF fv a b) b ((sdF fv a b) (b + 1))) (upd (sdF fr a b) b ((sdF fr a b) (b + 1))) (upd (sdF fd a b) b ((sdF fd a b) (b + 1))) (nI n))) rfl ?_
        refine x_iinc (lv' := [(2, .int (nI (b + 1))), (0, .ref o), (1, .int (nI a))]) h (pc' := 23) rfl d1_removeAt_20 0 rfl (n_inc b) (by decide) rfl ?_
        refine x_goto (pc' := 2) h d1_removeAt_23 (by decide) ?_
        refine x_w (w' := (wS o b1 b2 b3 b4 cI (sdF fk a (b + 1)) (sdF fv a (b + 1)) (sdF fr a (b + 1)) (sdF fd a (b + 1)) (nI n))) (by rw [sdF_step fk hb1, sdF_step fv hb1, sdF_step fr hb1, sdF_step fd hb1]) ?_
        exact ih (b + 1) (by omega) (by omega)
  refine x_iload_n h (pc' := 1) rfl d1_removeAt_0 1 rfl rfl ?_
  refine x_istore_n (lv' := [(2, .int (nI a)), (0, .ref o), (1, .int (nI a))]) h (pc' := 2) rfl d1_removeAt_1 rfl (by decide) rfl ?_
  refine x_w (w' := (wS o b1 b2 b3 b4 cI (sdF fk a a) (sdF fv a a) (sdF fr a a) (sdF fd a a) (nI n))) (by rw [sdF_aa, sdF_aa, sdF_aa, sdF_aa]) ?_
  exact lp (n - 1 - a) a (Nat.le_refl a) (by omega)
