set_option maxRecDepth 100000 in
set_option maxHeartbeats 4000000 in
theorem k3_find (l : Launch) (D : va_G) (cI cZ cS : ClassId) (o a1 a2 a3 a4 a5 : Nat) (fc fk fv fi fh : Nat → Int32) (md dn pe so fl lf ev fe : Int32) (s c : Nat) (hs : s < 5) (hc : c ≤ 31) (ec : fc s = nI c) (key : Int32) : CI l y3_find w3_find (rmd 0) D (TS3 cI cZ cS) [.ref o, .int (nI s), .int key] (wR o a1 a2 a3 a4 a5 cI cZ fc fk fv fi fh md dn pe so fl lf ev fe) (fun r w' => r = enc (31 * s) (fnK (sec fk s) c key) ∧ w' = (wR o a1 a2 a3 a4 a5 cI cZ fc fk fv fi fh md dn pe so fl lf ev fe)) := by
  refine x_metI (lv := [(0, .ref o), (1, .int (nI s)), (2, .int key)]) (by decide +kernel) rfl rfl (Nat.le_of_ble_eq_true rfl) rfl ?_
  intro X h hret
  have lp : ∀ f i : Nat, i + f = c → fnK (sec fk s) c key = fndF (fun i => decide (sec fk s i = key)) f i → WX X 0 0 5 [(3, .int (nI (31 * s + i))), (0, .ref o), (1, .int (nI s)), (2, .int key)] (wR o a1 a2 a3 a4 a5 cI cZ fc fk fv fi fh md dn pe so fl lf ev fe) [] := by
    intro f
    induction f with
    | zero =>
      intro i hi e
      refine x_iload_n h (pc' := 6) rfl d3_find_5 0 rfl rfl ?_
      refine x_bipush (v := (nI 31)) h (pc' := 8) rfl d3_find_6 (by decide) ?_
      refine x_iload_n h (pc' := 9) rfl d3_find_8 2 rfl rfl ?_
      refine x_imul (z := (nI (31 * s))) h (pc' := 10) rfl d3_find_9 (pk_mul 31 s) ?_
      refine x_aload_n h (pc' := 11) rfl d3_find_10 1 rfl rfl ?_
      refine x_get h (pc' := 14) rfl (fun c q => List.mem_cons_of_mem _ (in3 c q)) 0 0 rfl rfl (by decide) (List.mem_cons_of_mem _ lk3_7) rfl rfl d3_find_11 ?_
      refine x_iload_n h (pc' := 15) rfl d3_find_14 2 rfl rfl ?_
      refine x_iald (v := (nI c)) h (pc' := 16) rfl 1 0 rfl rfl (by omega) (by decide) d3_find_15 ec ?_
      refine x_iadd (z := (nI ((31 * s) + c))) h (pc' := 17) rfl d3_find_16 (nI_add (31 * s) c) ?_
      refine x_icmp_ge (tg := 38) h (pc' := 20) rfl d3_find_17 (by decide) (nI_leI (by omega) (by omega)) (fun c17 => ?_) (fun c17 => ?_)
      · skip
        refine x_iconst (v := (-1)) h (pc' := 39) rfl d3_find_38 (by decide) ?_
        exact hret _ _ _ _ d3_find_39 rfl ⟨by rw [e]; rfl, rfl⟩
      · skip
        exact absurd c17 (by omega)
    | succ f ih =>
      intro i hi e
      refine x_iload_n h (pc' := 6) rfl d3_find_5 0 rfl rfl ?_
      refine x_bipush (v := (nI 31)) h (pc' := 8) rfl d3_find_6 (by decide) ?_
      refine x_iload_n h (pc' := 9) rfl d3_find_8 2 rfl rfl ?_
      refine x_imul (z := (nI (31 * s))) h (pc' := 10) rfl d3_find_9 (pk_mul 31 s) ?_
      refine x_aload_n h (pc' := 11) rfl d3_find_10 1 rfl rfl ?_
      refine x_get h (pc' := 14) rfl (fun c q => List.mem_cons_of_mem _ (in3 c q)) 0 0 rfl rfl (by decide) (List.mem_cons_of_mem _ lk3_7) rfl rfl d3_find_11 ?_
      refine x_iload_n h (pc' := 15) rfl d3_find_14 2 rfl rfl ?_
      refine x_iald (v := (nI c)) h (pc' := 16) rfl 1 0 rfl rfl (by omega) (by decide) d3_find_15 ec ?_
      refine x_iadd (z := (nI ((31 * s) + c))) h (pc' := 17) rfl d3_find_16 (nI_add (31 * s) c) ?_
      refine x_icmp_ge (tg := 38) h (pc' := 20) rfl d3_find_17 (by decide) (nI_leI (by omega) (by omega)) (fun c17 => ?_) (fun c17 => ?_)
      · skip
        exact absurd c17 (by omega)
      · skip
        refine x_aload_n h (pc' := 21) rfl d3_find_20 1 rfl rfl ?_
        refine x_get h (pc' := 24) rfl (fun c q => List.mem_cons_of_mem _ (in3 c q)) 0 1 rfl rfl (by decide) (List.mem_cons_of_mem _ lk3_13) rfl rfl d3_find_21 ?_
        refine x_iload_n h (pc' := 25) rfl d3_find_24 0 rfl rfl ?_
        refine x_iald (v := (fk (31 * s + i))) h (pc' := 26) rfl 2 0 rfl rfl (by omega) (by decide) d3_find_25 rfl ?_
        refine x_iload_n h (pc' := 27) rfl d3_find_26 3 rfl rfl ?_
        refine x_icmp_ne (tg := 32) h (pc' := 30) rfl d3_find_27 (by decide) Iff.rfl (fun c27 => ?_) (fun c27 => ?_)
        · skip
          refine x_iinc (lv' := [(3, .int (nI ((31 * s + i) + 1))), (0, .ref o), (1, .int (nI s)), (2, .int key)]) h (pc' := 35) rfl d3_find_32 0 rfl (n_inc (31 * s + i)) (by decide) rfl ?_
          refine x_goto (pc' := 5) h d3_find_35 (by decide) ?_
          exact ih (i + 1) (by omega) (e.trans (fndF_miss (decide_eq_false c27)))
        · skip
          refine x_iload_n h (pc' := 31) rfl d3_find_30 0 rfl rfl ?_
          exact hret _ _ _ _ d3_find_31 rfl ⟨by rw [e, fndF_hit (decide_eq_true c27)]; rfl, rfl⟩
  refine x_bipush (v := (nI 31)) h (pc' := 2) rfl d3_find_0 (by decide) ?_
  refine x_iload_n h (pc' := 3) rfl d3_find_2 1 rfl rfl ?_
  refine x_imul (z := (nI (31 * s))) h (pc' := 4) rfl d3_find_3 (pk_mul 31 s) ?_
  refine x_istore_n (lv' := [(3, .int (nI (31 * s))), (0, .ref o), (1, .int (nI s)), (2, .int key)]) h (pc' := 5) rfl d3_find_4 rfl (by decide) rfl ?_
  exact lp c 0 (by omega) rfl
set_option maxRecDepth 100000 in
set_option maxHeartbeats 4000000 in
theorem k3_least (l : Launch) (D : va_G) (cI cZ cS : ClassId) (o a1 a2 a3 a4 a5 : Nat) (fc fk fv fi fh : Nat → Int32) (md dn pe so fl lf ev fe : Int32) (s c : Nat) (hs : s < 5) (hc : c ≤ 31) (ec : fc s = nI c) (key : Int32) : CI l y3_least w3_least (rmd 0) D (TS3 cI cZ cS) [.ref o, .int (nI s), .int key] (wR o a1 a2 a3 a4 a5 cI cZ fc fk fv fi fh md dn pe so fl lf ev fe) (fun r w' => r = (match lbK (sec fk s) c key with | none => -4 | some i => sec fk s i) ∧ w' = (wR o a1 a2 a3 a4 a5 cI cZ fc fk fv fi fh md dn pe so fl lf ev fe)) := by
  refine x_metI (lv := [(0, .ref o), (1, .int (nI s)), (2, .int key)]) (by decide +kernel) rfl rfl (Nat.le_of_ble_eq_true rfl) rfl ?_
  intro X h hret
  have lp : ∀ f i : Nat, i + f = c → lbK (sec fk s) c key = fndF (fun i => decide (key ≤ sec fk s i)) f i → WX X 0 0 5 [(3, .int (nI (31 * s + i))), (0, .ref o), (1, .int (nI s)), (2, .int key)] (wR o a1 a2 a3 a4 a5 cI cZ fc fk fv fi fh md dn pe so fl lf ev fe) [] := by
    intro f
    induction f with
    | zero =>
      intro i hi e
      refine x_iload_n h (pc' := 6) rfl d3_least_5 0 rfl rfl ?_
      refine x_bipush (v := (nI 31)) h (pc' := 8) rfl d3_least_6 (by decide) ?_
      refine x_iload_n h (pc' := 9) rfl d3_least_8 2 rfl rfl ?_
      refine x_imul (z := (nI (31 * s))) h (pc' := 10) rfl d3_least_9 (pk_mul 31 s) ?_
      refine x_aload_n h (pc' := 11) rfl d3_least_10 1 rfl rfl ?_
      refine x_get h (pc' := 14) rfl (fun c q => List.mem_cons_of_mem _ (in3 c q)) 0 0 rfl rfl (by decide) (List.mem_cons_of_mem _ lk3_7) rfl rfl d3_least_11 ?_
      refine x_iload_n h (pc' := 15) rfl d3_least_14 2 rfl rfl ?_
      refine x_iald (v := (nI c)) h (pc' := 16) rfl 1 0 rfl rfl (by omega) (by decide) d3_least_15 ec ?_
      refine x_iadd (z := (nI ((31 * s) + c))) h (pc' := 17) rfl d3_least_16 (nI_add (31 * s) c) ?_
      refine x_icmp_ge (tg := 43) h (pc' := 20) rfl d3_least_17 (by decide) (nI_leI (by omega) (by omega)) (fun c17 => ?_) (fun c17 => ?_)
      · skip
        refine x_bipush (v := (-4)) h (pc' := 45) rfl d3_least_43 (by decide) ?_
        exact hret _ _ _ _ d3_least_45 rfl ⟨by rw [e]; rfl, rfl⟩
      · skip
        exact absurd c17 (by omega)
    | succ f ih =>
      intro i hi e
      refine x_iload_n h (pc' := 6) rfl d3_least_5 0 rfl rfl ?_
      refine x_bipush (v := (nI 31)) h (pc' := 8) rfl d3_least_6 (by decide) ?_
      refine x_iload_n h (pc' := 9) rfl d3_least_8 2 rfl rfl ?_
      refine x_imul (z := (nI (31 * s))) h (pc' := 10) rfl d3_least_9 (pk_mul 31 s) ?_
      refine x_aload_n h (pc' := 11) rfl d3_least_10 1 rfl rfl ?_
      refine x_get h (pc' := 14) rfl (fun c q => List.mem_cons_of_mem _ (in3 c q)) 0 0 rfl rfl (by decide) (List.mem_cons_of_mem _ lk3_7) rfl rfl d3_least_11 ?_
      refine x_iload_n h (pc' := 15) rfl d3_least_14 2 rfl rfl ?_
      refine x_iald (v := (nI c)) h (pc' := 16) rfl 1 0 rfl rfl (by omega) (by decide) d3_least_15 ec ?_
      refine x_iadd (z := (nI ((31 * s) + c))) h (pc' := 17) rfl d3_least_16 (nI_add (31 * s) c) ?_
      refine x_icmp_ge (tg := 43) h (pc' := 20) rfl d3_least_17 (by decide) (nI_leI (by omega) (by omega)) (fun c17 => ?_) (fun c17 => ?_)
      · skip
        exact absurd c17 (by omega)
      · skip
        refine x_aload_n h (pc' := 21) rfl d3_least_20 1 rfl rfl ?_
        refine x_get h (pc' := 24) rfl (fun c q => List.mem_cons_of_mem _ (in3 c q)) 0 1 rfl rfl (by decide) (List.mem_cons_of_mem _ lk3_13) rfl rfl d3_least_21 ?_
        refine x_iload_n h (pc' := 25) rfl d3_least_24 0 rfl rfl ?_
        refine x_iald (v := (fk (31 * s + i))) h (pc' := 26) rfl 2 0 rfl rfl (by omega) (by decide) d3_least_25 rfl ?_
        refine x_iload_n h (pc' := 27) rfl d3_least_26 3 rfl rfl ?_
        refine x_icmp_lt (tg := 37) h (pc' := 30) rfl d3_least_27 (by decide) Iff.rfl (fun c27 => ?_) (fun c27 => ?_)
        · skip
          refine x_iinc (lv' := [(3, .int (nI ((31 * s + i) + 1))), (0, .ref o), (1, .int (nI s)), (2, .int key)]) h (pc' := 40) rfl d3_least_37 0 rfl (n_inc (31 * s + i)) (by decide) rfl ?_
          refine x_goto (pc' := 5) h d3_least_40 (by decide) ?_
          exact ih (i + 1) (by omega) (e.trans (fndF_miss (decide_eq_false (Int32.not_le.mpr c27))))
        · skip
          refine x_aload_n h (pc' := 31) rfl d3_least_30 1 rfl rfl ?_
          refine x_get h (pc' := 34) rfl (fun c q => List.mem_cons_of_mem _ (in3 c q)) 0 1 rfl rfl (by decide) (List.mem_cons_of_mem _ lk3_13) rfl rfl d3_least_31 ?_
          refine x_iload_n h (pc' := 35) rfl d3_least_34 0 rfl rfl ?_
          refine x_iald (v := (fk (31 * s + i))) h (pc' := 36) rfl 2 0 rfl rfl (by omega) (by decide) d3_least_35 rfl ?_
          exact hret _ _ _ _ d3_least_36 rfl ⟨by rw [e, fndF_hit (decide_eq_true (Int32.not_lt.mp c27))]; rfl, rfl⟩
  refine x_bipush (v := (nI 31)) h (pc' := 2) rfl d3_least_0 (by decide) ?_
  refine x_iload_n h (pc' := 3) rfl d3_least_2 1 rfl rfl ?_
  refine x_imul (z := (nI (31 * s))) h (pc' := 4) rfl d3_least_3 (pk_mul 31 s) ?_
  refine x_istore_n (lv' := [(3, .int (nI (31 * s))), (0, .ref o), (1, .int (nI s)), (2, .int key)]) h (pc' := 5) rfl d3_least_4 rfl (by decide) rfl ?_
  exact lp c 0 (by omega) rfl
set_option maxRecDepth 100000 in
set_option maxHeartbeats 4000000 in
theorem k3_first (l : Launch) (D : va_G) (cI cZ cS : ClassId) (o a1 a2 a3 a4 a5 : Nat) (fc fk fv fi fh : Nat → Int32) (md dn pe so fl lf ev fe : Int32) (s c : Nat) (hs : s < 5) (hc : c ≤ 31) (ec : fc s = nI c) (a : Nat) (ha : a < c) : CI l y3_first w3_first (rmd 2) D (TS3 cI cZ cS) [.ref o, .int (nI s), .int (nI (31 * s + a))] (wR o a1 a2 a3 a4 a5 cI cZ fc fk fv fi fh md dn pe so fl lf ev fe) (fun r w' => r = nI (31 * s + fsT (hiK (sec fk s)) a) ∧ w' = (wR o a1 a2 a3 a4 a5 cI cZ fc fk fv fi fh md dn pe so fl lf ev fe)) := by
  refine x_metI (lv := [(0, .ref o), (1, .int (nI s)), (2, .int (nI (31 * s + a)))]) (by decide +kernel) rfl rfl (Nat.le_of_ble_eq_true rfl) rfl ?_
  intro X h hret
  have lp : ∀ i : Nat, i ≤ a → fsT (hiK (sec fk s)) a = fstF (hiK (sec fk s) a) i → WX X 0 0 2 [(3, .int (nI (31 * s + i))), (0, .ref o), (1, .int (nI s)), (2, .int (nI (31 * s + a)))] (wR o a1 a2 a3 a4 a5 cI cZ fc fk fv fi fh md dn pe so fl lf ev fe) [] := by
    intro i
    induction i with
    | zero =>
      intro hi e
      refine x_iload_n h (pc' := 3) rfl d3_first_2 0 rfl rfl ?_
      refine x_bipush (v := (nI 31)) h (pc' := 5) rfl d3_first_3 (by decide) ?_
      refine x_iload_n h (pc' := 6) rfl d3_first_5 2 rfl rfl ?_
      refine x_imul (z := (nI (31 * s))) h (pc' := 7) rfl d3_first_6 (pk_mul 31 s) ?_
      refine x_icmp_le (tg := 36) h (pc' := 10) rfl d3_first_7 (by decide) (nI_leI (by omega) (by omega)) (fun c7 => ?_) (fun c7 => ?_)
      · skip
        refine x_iload_n h (pc' := 37) rfl d3_first_36 0 rfl rfl ?_
        exact hret _ _ _ _ d3_first_37 rfl ⟨by rw [e]; rfl, rfl⟩
      · skip
        exact absurd c7 (by omega)
    | succ i ih =>
      intro hi e
      refine x_iload_n h (pc' := 3) rfl d3_first_2 0 rfl rfl ?_
      refine x_bipush (v := (nI 31)) h (pc' := 5) rfl d3_first_3 (by decide) ?_
      refine x_iload_n h (pc' := 6) rfl d3_first_5 2 rfl rfl ?_
      refine x_imul (z := (nI (31 * s))) h (pc' := 7) rfl d3_first_6 (pk_mul 31 s) ?_
      refine x_icmp_le (tg := 36) h (pc' := 10) rfl d3_first_7 (by decide) (nI_leI (by omega) (by omega)) (fun c7 => ?_) (fun c7 => ?_)
      · skip
        exact absurd c7 (by omega)
      · skip
        refine x_aload_n h (pc' := 11) rfl d3_first_10 1 rfl rfl ?_
        refine x_get h (pc' := 14) rfl (fun c q => List.mem_cons_of_mem _ (in3 c q)) 0 1 rfl rfl (by decide) (List.mem_cons_of_mem _ lk3_13) rfl rfl d3_first_11 ?_
        refine x_iload_n h (pc' := 15) rfl d3_first_14 3 rfl rfl ?_
        refine x_iald (v := (fk (31 * s + a))) h (pc' := 16) rfl 2 0 rfl rfl (by omega) (by decide) d3_first_15 rfl ?_
        refine x_aload_n h (pc' := 17) rfl d3_first_16 1 rfl rfl ?_
        refine x_get h (pc' := 20) rfl (fun c q => List.mem_cons_of_mem _ (in3 c q)) 0 1 rfl rfl (by decide) (List.mem_cons_of_mem _ lk3_13) rfl rfl d3_first_17 ?_
        refine x_iload_n h (pc' := 21) rfl d3_first_20 0 rfl rfl ?_
        refine x_iconst (v := (nI 1)) h (pc' := 22) rfl d3_first_21 (by decide) ?_
        refine x_isub (z := (nI ((31 * s + (i + 1)) - 1))) h (pc' := 23) rfl d3_first_22 (pk_sub (by omega)) ?_
        refine x_top (y := (nI (31 * s + i))) (congrArg nI (by omega)) ?_
        refine x_iald (v := (fk (31 * s + i))) h (pc' := 24) rfl 2 0 rfl rfl (by omega) (by decide) d3_first_23 rfl ?_
        -- higher
        refine x_sI h (pc' := 27) rfl [.int (fk (31 * s + a)), .int (fk (31 * s + i))] (k3_higher l D cI cZ cS (fk (31 * s + a)) (fk (31 * s + i))) d3_first_24 2 (gd_S ml3_37 st3_higher ini3 cd3_higher) rfl ⟨rfl, rfl⟩ hd3_higher ⟨by decide, by decide⟩ ⟨Nat.zero_le _, Nat.zero_le _⟩ [] rfl rfl rfl (Nat.le_of_ble_eq_true rfl) rfl (fun rr24 ww24 pp24 ee24 => ?_)
        obtain ⟨rfl, rfl⟩ := pp24
        refine x_w (w' := (wR o a1 a2 a3 a4 a5 cI cZ fc fk fv fi fh md dn pe so fl lf ev fe)) rfl ?_
        refine x_if_eq (tg := 36) h (pc' := 30) rfl d3_first_27 (by decide) (bi_0 _) (fun c27 => ?_) (fun c27 => ?_)
        · skip
          refine x_iload_n h (pc' := 37) rfl d3_first_36 0 rfl rfl ?_
          exact hret _ _ _ _ d3_first_37 rfl ⟨by rw [e, fstF_stop c27], rfl⟩
        · skip
          refine x_iinc (lv' := [(3, .int (nI (31 * s + i))), (0, .ref o), (1, .int (nI s)), (2, .int (nI (31 * s + a)))]) h (pc' := 33) rfl d3_first_30 0 rfl (n_decE (by omega)) (by decide) rfl ?_
          refine x_goto (pc' := 2) h d3_first_33 (by decide) ?_
          exact ih (by omega) (e.trans (fstF_hit (ne_f c27)))
  refine x_iload_n h (pc' := 1) rfl d3_first_0 2 rfl rfl ?_
  refine x_istore_n (lv' := [(3, .int (nI (31 * s + a))), (0, .ref o), (1, .int (nI s)), (2, .int (nI (31 * s + a)))]) h (pc' := 2) rfl d3_first_1 rfl (by decide) rfl ?_
  exact lp a (by omega) rfl
set_option maxRecDepth 100000 in
set_option maxHeartbeats 4000000 in
theorem k3_last (l : Launch) (D : va_G) (cI cZ cS : ClassId) (o a1 a2 a3 a4 a5 : Nat) (fc fk fv fi fh : Nat → Int32) (md dn pe so fl lf ev fe : Int32) (s c : Nat) (hs : s < 5) (hc : c ≤ 31) (ec : fc s = nI c) (a : Nat) (ha : a < c) : CI l y3_last w3_last (rmd 2) D (TS3 cI cZ cS) [.ref o, .int (nI s), .int (nI (31 * s + a))] (wR o a1 a2 a3 a4 a5 cI cZ fc fk fv fi fh md dn pe so fl lf ev fe) (fun r w' => r = nI (31 * s + laT (hiK (sec fk s)) c a) ∧ w' = (wR o a1 a2 a3 a4 a5 cI cZ fc fk fv fi fh md dn pe so fl lf ev fe)) := by
  refine x_metI (lv := [(0, .ref o), (1, .int (nI s)), (2, .int (nI (31 * s + a)))]) (by decide +kernel) rfl rfl (Nat.le_of_ble_eq_true rfl) rfl ?_
  intro X h hret
  have lp : ∀ f i : Nat, i + f + 1 = c → laT (hiK (sec fk s)) c a = lstF (hiK (sec fk s) a) f i → WX X 0 0 2 [(3, .int (nI (31 * s + i))), (0, .ref o), (1, .int (nI s)), (2, .int (nI (31 * s + a)))] (wR o a1 a2 a3 a4 a5 cI cZ fc fk fv fi fh md dn pe so fl lf ev fe) [] := by
    intro f
    induction f with
    | zero =>
      intro i hi e
      refine x_iload_n h (pc' := 3) rfl d3_last_2 0 rfl rfl ?_
      refine x_iconst (v := (nI 1)) h (pc' := 4) rfl d3_last_3 (by decide) ?_
      refine x_iadd (z := (nI ((31 * s + i) + 1))) h (pc' := 5) rfl d3_last_4 (nI_add (31 * s + i) 1) ?_
      refine x_bipush (v := (nI 31)) h (pc' := 7) rfl d3_last_5 (by decide) ?_
      refine x_iload_n h (pc' := 8) rfl d3_last_7 2 rfl rfl ?_
      refine x_imul (z := (nI (31 * s))) h (pc' := 9) rfl d3_last_8 (pk_mul 31 s) ?_
      refine x_aload_n h (pc' := 10) rfl d3_last_9 1 rfl rfl ?_
      refine x_get h (pc' := 13) rfl (fun c q => List.mem_cons_of_mem _ (in3 c q)) 0 0 rfl rfl (by decide) (List.mem_cons_of_mem _ lk3_7) rfl rfl d3_last_10 ?_
      refine x_iload_n h (pc' := 14) rfl d3_last_13 2 rfl rfl ?_
      refine x_iald (v := (nI c)) h (pc' := 15) rfl 1 0 rfl rfl (by omega) (by decide) d3_last_14 ec ?_
      refine x_iadd (z := (nI ((31 * s) + c))) h (pc' := 16) rfl d3_last_15 (nI_add (31 * s) c) ?_
      refine x_icmp_ge (tg := 45) h (pc' := 19) rfl d3_last_16 (by decide) (nI_leI (by omega) (by omega)) (fun c16 => ?_) (fun c16 => ?_)
      · skip
        refine x_iload_n h (pc' := 46) rfl d3_last_45 0 rfl rfl ?_
        exact hret _ _ _ _ d3_last_46 rfl ⟨by rw [e]; rfl, rfl⟩
      · skip
        exact absurd c16 (by omega)
    | succ f ih =>
      intro i hi e
      refine x_iload_n h (pc' := 3) rfl d3_last_2 0 rfl rfl ?_
      refine x_iconst (v := (nI 1)) h (pc' := 4) rfl d3_last_3 (by decide) ?_
      refine x_iadd (z := (nI ((31 * s + i) + 1))) h (pc' := 5) rfl d3_last_4 (nI_add (31 * s + i) 1) ?_
      refine x_bipush (v := (nI 31)) h (pc' := 7) rfl d3_last_5 (by decide) ?_
      refine x_iload_n h (pc' := 8) rfl d3_last_7 2 rfl rfl ?_
      refine x_imul (z := (nI (31 * s))) h (pc' := 9) rfl d3_last_8 (pk_mul 31 s) ?_
      refine x_aload_n h (pc' := 10) rfl d3_last_9 1 rfl rfl ?_
      refine x_get h (pc' := 13) rfl (fun c q => List.mem_cons_of_mem _ (in3 c q)) 0 0 rfl rfl (by decide) (List.mem_cons_of_mem _ lk3_7) rfl rfl d3_last_10 ?_
      refine x_iload_n h (pc' := 14) rfl d3_last_13 2 rfl rfl ?_
      refine x_iald (v := (nI c)) h (pc' := 15) rfl 1 0 rfl rfl (by omega) (by decide) d3_last_14 ec ?_
      refine x_iadd (z := (nI ((31 * s) + c))) h (pc' := 16) rfl d3_last_15 (nI_add (31 * s) c) ?_
      refine x_icmp_ge (tg := 45) h (pc' := 19) rfl d3_last_16 (by decide) (nI_leI (by omega) (by omega)) (fun c16 => ?_) (fun c16 => ?_)
      · skip
        exact absurd c16 (by omega)
      · skip
        refine x_aload_n h (pc' := 20) rfl d3_last_19 1 rfl rfl ?_
        refine x_get h (pc' := 23) rfl (fun c q => List.mem_cons_of_mem _ (in3 c q)) 0 1 rfl rfl (by decide) (List.mem_cons_of_mem _ lk3_13) rfl rfl d3_last_20 ?_
        refine x_iload_n h (pc' := 24) rfl d3_last_23 3 rfl rfl ?_
        refine x_iald (v := (fk (31 * s + a))) h (pc' := 25) rfl 2 0 rfl rfl (by omega) (by decide) d3_last_24 rfl ?_
        refine x_aload_n h (pc' := 26) rfl d3_last_25 1 rfl rfl ?_
        refine x_get h (pc' := 29) rfl (fun c q => List.mem_cons_of_mem _ (in3 c q)) 0 1 rfl rfl (by decide) (List.mem_cons_of_mem _ lk3_13) rfl rfl d3_last_26 ?_
        refine x_iload_n h (pc' := 30) rfl d3_last_29 0 rfl rfl ?_
        refine x_iconst (v := (nI 1)) h (pc' := 31) rfl d3_last_30 (by decide) ?_
        refine x_iadd (z := (nI ((31 * s + i) + 1))) h (pc' := 32) rfl d3_last_31 (nI_add (31 * s + i) 1) ?_
        refine x_top (y := (nI (31 * s + (i + 1)))) (congrArg nI (by omega)) ?_
        refine x_iald (v := (fk (31 * s + (i + 1)))) h (pc' := 33) rfl 2 0 rfl rfl (by omega) (by decide) d3_last_32 rfl ?_
        -- higher
        refine x_sI h (pc' := 36) rfl [.int (fk (31 * s + a)), .int (fk (31 * s + (i + 1)))] (k3_higher l D cI cZ cS (fk (31 * s + a)) (fk (31 * s + (i + 1)))) d3_last_33 2 (gd_S ml3_37 st3_higher ini3 cd3_higher) rfl ⟨rfl, rfl⟩ hd3_higher ⟨by decide, by decide⟩ ⟨Nat.zero_le _, Nat.zero_le _⟩ [] rfl rfl rfl (Nat.le_of_ble_eq_true rfl) rfl (fun rr33 ww33 pp33 ee33 => ?_)
        obtain ⟨rfl, rfl⟩ := pp33
        refine x_w (w' := (wR o a1 a2 a3 a4 a5 cI cZ fc fk fv fi fh md dn pe so fl lf ev fe)) rfl ?_
        refine x_if_eq (tg := 45) h (pc' := 39) rfl d3_last_36 (by decide) (bi_0 _) (fun c36 => ?_) (fun c36 => ?_)
        · skip
          refine x_iload_n h (pc' := 46) rfl d3_last_45 0 rfl rfl ?_
          exact hret _ _ _ _ d3_last_46 rfl ⟨by rw [e, lstF_stop c36], rfl⟩
        · skip
          refine x_iinc (lv' := [(3, .int (nI ((31 * s + i) + 1))), (0, .ref o), (1, .int (nI s)), (2, .int (nI (31 * s + a)))]) h (pc' := 42) rfl d3_last_39 0 rfl (n_inc (31 * s + i)) (by decide) rfl ?_
          refine x_goto (pc' := 2) h d3_last_42 (by decide) ?_
          exact ih (i + 1) (by omega) (e.trans (lstF_hit (ne_f c36)))
  refine x_iload_n h (pc' := 1) rfl d3_last_0 2 rfl rfl ?_
  refine x_istore_n (lv' := [(3, .int (nI (31 * s + a))), (0, .ref o), (1, .int (nI s)), (2, .int (nI (31 * s + a)))]) h (pc' := 2) rfl d3_last_1 rfl (by decide) rfl ?_
  exact lp (c - 1 - a) a (by omega) rfl
