set_option maxRecDepth 100000 in
set_option maxHeartbeats 4000000 in
theorem k3_value (l : Launch) (D : va_G) (cI cZ cS : ClassId) (o a1 a2 a3 a4 a5 : Nat) (fc fk fv fi fh : Nat → Int32) (md dn pe so fl lf ev fe : Int32) (s c : Nat) (hs : s < 5) (hc : c ≤ 31) (ec : fc s = nI c) (key : Int32) : CI l y3_value w3_value (rmd 1) D (TS3 cI cZ cS) [.ref o, .int (nI s), .int key] (wR o a1 a2 a3 a4 a5 cI cZ fc fk fv fi fh md dn pe so fl lf ev fe) (fun r w' => r = (match fnK (sec fk s) c key with | none => -4 | some i => sec fv s i) ∧ w' = (wR o a1 a2 a3 a4 a5 cI cZ fc fk fv fi fh md dn pe so fl lf ev fe)) := by
  refine x_metI (lv := [(0, .ref o), (1, .int (nI s)), (2, .int key)]) (by decide +kernel) rfl rfl (Nat.le_of_ble_eq_true rfl) rfl ?_
  intro X h hret
  refine x_aload_n h (pc' := 1) rfl d3_value_0 0 rfl rfl ?_
  refine x_iload_n h (pc' := 2) rfl d3_value_1 1 rfl rfl ?_
  refine x_iload_n h (pc' := 3) rfl d3_value_2 2 rfl rfl ?_
  -- find
  refine x_vI h (pc' := 6) rfl [.int (nI s), .int key] (k3_find l D cI cZ cS o a1 a2 a3 a4 a5 fc fk fv fi fh md dn pe so fl lf ev fe s c hs hc ec key) d3_value_3 2 (gd_V ml3_51 im3_find se3_find ini3 cd3_find) rfl ⟨rfl, rfl⟩ hd3_find ⟨by decide, by decide⟩ ⟨Nat.zero_le _, Nat.zero_le _⟩ 0 rfl rfl rfl [0, 1, 2, 3, 4, 5] rfl rfl rfl (Nat.le_of_ble_eq_true rfl) rfl (fun rr3 ww3 pp3 ee3 => ?_)
  obtain ⟨rfl, rfl⟩ := pp3
  rcases hq : fnK (sec fk s) c key with _ | i
  · skip
    refine x_w (w' := (wR o a1 a2 a3 a4 a5 cI cZ fc fk fv fi fh md dn pe so fl lf ev fe)) rfl ?_
    refine x_top (y := (-1)) rfl ?_
    refine x_istore_n (lv' := [(3, .int (-1)), (0, .ref o), (1, .int (nI s)), (2, .int key)]) h (pc' := 7) rfl d3_value_6 rfl (by decide) rfl ?_
    refine x_iload_n h (pc' := 8) rfl d3_value_7 0 rfl rfl ?_
    refine x_if_ge (tg := 16) h (pc' := 11) rfl d3_value_8 (by decide) Iff.rfl (fun c8 => ?_) (fun c8 => ?_)
    · skip
      exact absurd c8 (by decide)
    · skip
      refine x_bipush (v := (-4)) h (pc' := 13) rfl d3_value_11 (by decide) ?_
      refine x_goto (pc' := 22) h d3_value_13 (by decide) ?_
      exact hret _ _ _ _ d3_value_22 rfl ⟨by rw [hq] <;> rfl, rfl⟩
  · skip
    have hb := fnK_some hq
    refine x_w (w' := (wR o a1 a2 a3 a4 a5 cI cZ fc fk fv fi fh md dn pe so fl lf ev fe)) rfl ?_
    refine x_top (y := (nI (31 * s + i))) rfl ?_
    refine x_istore_n (lv' := [(3, .int (nI (31 * s + i))), (0, .ref o), (1, .int (nI s)), (2, .int key)]) h (pc' := 7) rfl d3_value_6 rfl (by decide) rfl ?_
    refine x_iload_n h (pc' := 8) rfl d3_value_7 0 rfl rfl ?_
    refine x_if_ge (tg := 16) h (pc' := 11) rfl d3_value_8 (by decide) (n_ge0 (by omega)) (fun c8 => ?_) (fun c8 => ?_)
    · skip
      refine x_aload_n h (pc' := 17) rfl d3_value_16 1 rfl rfl ?_
      refine x_get h (pc' := 20) rfl (fun c q => List.mem_cons_of_mem _ (in3 c q)) 0 2 rfl rfl (by decide) (List.mem_cons_of_mem _ lk3_16) rfl rfl d3_value_17 ?_
      refine x_iload_n h (pc' := 21) rfl d3_value_20 0 rfl rfl ?_
      refine x_iald (v := (fv (31 * s + i))) h (pc' := 22) rfl 3 0 rfl rfl (by omega) (by decide) d3_value_21 rfl ?_
      exact hret _ _ _ _ d3_value_22 rfl ⟨by rw [hq] <;> rfl, rfl⟩
    · skip
      exact absurd c8 (by omega)
set_option maxRecDepth 100000 in
set_option maxHeartbeats 4000000 in
theorem k3_hasNode (l : Launch) (D : va_G) (cI cZ cS : ClassId) (o a1 a2 a3 a4 a5 : Nat) (fc fk fv fi fh : Nat → Int32) (md dn pe so fl lf ev fe : Int32) (s c : Nat) (hs : s < 5) (hc : c ≤ 31) (ec : fc s = nI c) (x : Int32) : CI l y3_hasNode w3_hasNode (rmd 0) D (TS3 cI cZ cS) [.ref o, .int (nI s), .int x] (wR o a1 a2 a3 a4 a5 cI cZ fc fk fv fi fh md dn pe so fl lf ev fe) (fun r w' => r = bi (memF (sec fi s) c x) ∧ w' = (wR o a1 a2 a3 a4 a5 cI cZ fc fk fv fi fh md dn pe so fl lf ev fe)) := by
  refine x_metZ (lv := [(0, .ref o), (1, .int (nI s)), (2, .int x)]) (by decide +kernel) rfl rfl (Nat.le_of_ble_eq_true rfl) rfl ?_
  intro X h hret
  have lp : ∀ f i : Nat, i + f = c → ∀ q : Bool, q = memF (sec fi s) i x → WX X 0 0 8 [(4, .int (nI (31 * s + i))), (3, .int (bi q)), (0, .ref o), (1, .int (nI s)), (2, .int x)] (wR o a1 a2 a3 a4 a5 cI cZ fc fk fv fi fh md dn pe so fl lf ev fe) [] := by
    intro f
    induction f with
    | zero =>
      intro i hi q e
      obtain rfl : i = c := by omega
      refine x_iload h (pc' := 10) rfl d3_hasNode_8 0 rfl ?_
      refine x_bipush (v := (nI 31)) h (pc' := 12) rfl d3_hasNode_10 (by decide) ?_
      refine x_iload_n h (pc' := 13) rfl d3_hasNode_12 3 rfl rfl ?_
      refine x_imul (z := (nI (31 * s))) h (pc' := 14) rfl d3_hasNode_13 (pk_mul 31 s) ?_
      refine x_aload_n h (pc' := 15) rfl d3_hasNode_14 2 rfl rfl ?_
      refine x_get h (pc' := 18) rfl (fun c q => List.mem_cons_of_mem _ (in3 c q)) 0 0 rfl rfl (by decide) (List.mem_cons_of_mem _ lk3_7) rfl rfl d3_hasNode_15 ?_
      refine x_iload_n h (pc' := 19) rfl d3_hasNode_18 3 rfl rfl ?_
      refine x_iald (v := (nI i)) h (pc' := 20) rfl 1 0 rfl rfl (by omega) (by decide) d3_hasNode_19 ec ?_
      refine x_iadd (z := (nI ((31 * s) + i))) h (pc' := 21) rfl d3_hasNode_20 (nI_add (31 * s) i) ?_
      refine x_icmp_ge (tg := 51) h (pc' := 24) rfl d3_hasNode_21 (by decide) (nI_leI (by omega) (by omega)) (fun c21 => ?_) (fun c21 => ?_)
      · skip
        refine x_iload_n h (pc' := 52) rfl d3_hasNode_51 1 rfl rfl ?_
        exact hret _ _ _ _ (bi_nar _) d3_hasNode_52 rfl ⟨by rw [e], rfl⟩
      · skip
        exact absurd c21 (by omega)
    | succ f ih =>
      intro i hi q e
      refine x_iload h (pc' := 10) rfl d3_hasNode_8 0 rfl ?_
      refine x_bipush (v := (nI 31)) h (pc' := 12) rfl d3_hasNode_10 (by decide) ?_
      refine x_iload_n h (pc' := 13) rfl d3_hasNode_12 3 rfl rfl ?_
      refine x_imul (z := (nI (31 * s))) h (pc' := 14) rfl d3_hasNode_13 (pk_mul 31 s) ?_
      refine x_aload_n h (pc' := 15) rfl d3_hasNode_14 2 rfl rfl ?_
      refine x_get h (pc' := 18) rfl (fun c q => List.mem_cons_of_mem _ (in3 c q)) 0 0 rfl rfl (by decide) (List.mem_cons_of_mem _ lk3_7) rfl rfl d3_hasNode_15 ?_
      refine x_iload_n h (pc' := 19) rfl d3_hasNode_18 3 rfl rfl ?_
      refine x_iald (v := (nI c)) h (pc' := 20) rfl 1 0 rfl rfl (by omega) (by decide) d3_hasNode_19 ec ?_
      refine x_iadd (z := (nI ((31 * s) + c))) h (pc' := 21) rfl d3_hasNode_20 (nI_add (31 * s) c) ?_
      refine x_icmp_ge (tg := 51) h (pc' := 24) rfl d3_hasNode_21 (by decide) (nI_leI (by omega) (by omega)) (fun c21 => ?_) (fun c21 => ?_)
      · skip
        exact absurd c21 (by omega)
      · skip
        refine x_iload_n h (pc' := 25) rfl d3_hasNode_24 1 rfl rfl ?_
        refine x_if_ne (tg := 39) h (pc' := 28) rfl d3_hasNode_25 (by decide) (bi_0 _) (fun c25 => ?_) (fun c25 => ?_)
        · skip
          refine x_iconst (v := (nI 1)) h (pc' := 40) rfl d3_hasNode_39 (by decide) ?_
          refine x_goto (pc' := 44) h d3_hasNode_40 (by decide) ?_
          refine x_top (y := (bi true)) rfl ?_
          refine x_istore_n (lv' := [(3, .int (bi true)), (4, .int (nI (31 * s + i))), (0, .ref o), (1, .int (nI s)), (2, .int x)]) h (pc' := 45) rfl d3_hasNode_44 rfl (by decide) rfl ?_
          refine x_iinc (lv' := [(4, .int (nI ((31 * s + i) + 1))), (3, .int (bi true)), (0, .ref o), (1, .int (nI s)), (2, .int x)]) h (pc' := 48) rfl d3_hasNode_45 1 rfl (n_inc (31 * s + i)) (by decide) rfl ?_
          refine x_goto (pc' := 8) h d3_hasNode_48 (by decide) ?_
          refine x_lv (lv' := [(4, .int (nI (31 * s + (i + 1)))), (3, .int (bi true)), (0, .ref o), (1, .int (nI s)), (2, .int x)]) [0, 1, 2, 3, 4] rfl ?_
          exact ih (i + 1) (by omega) true (by rw [memF_s, ← e]; first | rw [ne_f c25]; rfl | rw [decide_eq_true (show sec fi s i = x from c36), Bool.or_true])
        · skip
          refine x_aload_n h (pc' := 29) rfl d3_hasNode_28 2 rfl rfl ?_
          refine x_get h (pc' := 32) rfl (fun c q => List.mem_cons_of_mem _ (in3 c q)) 0 3 rfl rfl (by decide) (List.mem_cons_of_mem _ lk3_19) rfl rfl d3_hasNode_29 ?_
          refine x_iload h (pc' := 34) rfl d3_hasNode_32 0 rfl ?_
          refine x_iald (v := (fi (31 * s + i))) h (pc' := 35) rfl 4 0 rfl rfl (by omega) (by decide) d3_hasNode_34 rfl ?_
          refine x_iload_n h (pc' := 36) rfl d3_hasNode_35 4 rfl rfl ?_
          refine x_icmp_ne (tg := 43) h (pc' := 39) rfl d3_hasNode_36 (by decide) Iff.rfl (fun c36 => ?_) (fun c36 => ?_)
          · skip
            refine x_iconst (v := (nI 0)) h (pc' := 44) rfl d3_hasNode_43 (by decide) ?_
            refine x_top (y := (bi false)) rfl ?_
            refine x_istore_n (lv' := [(3, .int (bi false)), (4, .int (nI (31 * s + i))), (0, .ref o), (1, .int (nI s)), (2, .int x)]) h (pc' := 45) rfl d3_hasNode_44 rfl (by decide) rfl ?_
            refine x_iinc (lv' := [(4, .int (nI ((31 * s + i) + 1))), (3, .int (bi false)), (0, .ref o), (1, .int (nI s)), (2, .int x)]) h (pc' := 48) rfl d3_hasNode_45 1 rfl (n_inc (31 * s + i)) (by decide) rfl ?_
            refine x_goto (pc' := 8) h d3_hasNode_48 (by decide) ?_
            refine x_lv (lv' := [(4, .int (nI (31 * s + (i + 1)))), (3, .int (bi false)), (0, .ref o), (1, .int (nI s)), (2, .int x)]) [0, 1, 2, 3, 4] rfl ?_
            exact ih (i + 1) (by omega) false (by rw [memF_s, ← e, c25, decide_eq_false (show ¬ sec fi s i = x from c36)]; rfl)
          · skip
            refine x_iconst (v := (nI 1)) h (pc' := 40) rfl d3_hasNode_39 (by decide) ?_
            refine x_goto (pc' := 44) h d3_hasNode_40 (by decide) ?_
            refine x_top (y := (bi true)) rfl ?_
            refine x_istore_n (lv' := [(3, .int (bi true)), (4, .int (nI (31 * s + i))), (0, .ref o), (1, .int (nI s)), (2, .int x)]) h (pc' := 45) rfl d3_hasNode_44 rfl (by decide) rfl ?_
            refine x_iinc (lv' := [(4, .int (nI ((31 * s + i) + 1))), (3, .int (bi true)), (0, .ref o), (1, .int (nI s)), (2, .int x)]) h (pc' := 48) rfl d3_hasNode_45 1 rfl (n_inc (31 * s + i)) (by decide) rfl ?_
            refine x_goto (pc' := 8) h d3_hasNode_48 (by decide) ?_
            refine x_lv (lv' := [(4, .int (nI (31 * s + (i + 1)))), (3, .int (bi true)), (0, .ref o), (1, .int (nI s)), (2, .int x)]) [0, 1, 2, 3, 4] rfl ?_
            exact ih (i + 1) (by omega) true (by rw [memF_s, ← e]; first | rw [ne_f c25]; rfl | rw [decide_eq_true (show sec fi s i = x from c36), Bool.or_true])
  refine x_iconst (v := (nI 0)) h (pc' := 1) rfl d3_hasNode_0 (by decide) ?_
  refine x_top (y := (bi false)) rfl ?_
  refine x_istore_n (lv' := [(3, .int (bi false)), (0, .ref o), (1, .int (nI s)), (2, .int x)]) h (pc' := 2) rfl d3_hasNode_1 rfl (by decide) rfl ?_
  refine x_bipush (v := (nI 31)) h (pc' := 4) rfl d3_hasNode_2 (by decide) ?_
  refine x_iload_n h (pc' := 5) rfl d3_hasNode_4 2 rfl rfl ?_
  refine x_imul (z := (nI (31 * s))) h (pc' := 6) rfl d3_hasNode_5 (pk_mul 31 s) ?_
  refine x_istore (lv' := [(4, .int (nI (31 * s))), (3, .int (bi false)), (0, .ref o), (1, .int (nI s)), (2, .int x)]) h (pc' := 8) rfl d3_hasNode_6 (by decide) rfl ?_
  exact lp c 0 (by omega) false (memF_0 _ _).symm
set_option maxRecDepth 100000 in
set_option maxHeartbeats 4000000 in
theorem k3_copy (l : Launch) (D : va_G) (cI cZ cS : ClassId) (o a1 a2 a3 a4 a5 : Nat) (fc fk fv fi fh : Nat → Int32) (md dn pe so fl lf ev fe : Int32) (s c : Nat) (hs : s < 5) (hc : c ≤ 31) (ec : fc s = nI c) (t : Nat) (ht : t < 5) (hst : s ≠ t) : CV l y3_copy w3_copy (rmd 0) D (TS3 cI cZ cS) [.ref o, .int (nI s), .int (nI t)] (wR o a1 a2 a3 a4 a5 cI cZ fc fk fv fi fh md dn pe so fl lf ev fe) (fun w' => w' = (wR o a1 a2 a3 a4 a5 cI cZ (upd fc t (nI c)) (va_cpy fk fk (31 * s) (31 * t) c) (va_cpy fv fv (31 * s) (31 * t) c) (va_cpy fi fi (31 * s) (31 * t) c) fh md dn pe so fl lf ev fe)) := by
  refine x_metV (lv := [(0, .ref o), (1, .int (nI s)), (2, .int (nI t))]) (by decide +kernel) rfl rfl (Nat.le_of_ble_eq_true rfl) rfl ?_
  intro X h hret
  have lp : ∀ f k : Nat, k + f = c → WX X 0 0 14 [(3, .int (nI k)), (0, .ref o), (1, .int (nI s)), (2, .int (nI t))] (wR o a1 a2 a3 a4 a5 cI cZ (upd fc t (nI c)) (va_cpy fk fk (31 * s) (31 * t) k) (va_cpy fv fv (31 * s) (31 * t) k) (va_cpy fi fi (31 * s) (31 * t) k) fh md dn pe so fl lf ev fe) [] := by
    intro f
    induction f with
    | zero =>
      intro k hk
      refine x_iload_n h (pc' := 15) rfl d3_copy_14 0 rfl rfl ?_
      refine x_aload_n h (pc' := 16) rfl d3_copy_15 1 rfl rfl ?_
      refine x_get h (pc' := 19) rfl (fun c q => List.mem_cons_of_mem _ (in3 c q)) 0 0 rfl rfl (by decide) (List.mem_cons_of_mem _ lk3_7) rfl rfl d3_copy_16 ?_
      refine x_iload_n h (pc' := 20) rfl d3_copy_19 2 rfl rfl ?_
      refine x_iald (v := (nI c)) h (pc' := 21) rfl 1 0 rfl rfl (by omega) (by decide) d3_copy_20 ((pk_un hst).trans ec) ?_
      refine x_icmp_ge (tg := 96) h (pc' := 24) rfl d3_copy_21 (by decide) (nI_leI (by omega) (by omega)) (fun c21 => ?_) (fun c21 => ?_)
      · skip
        exact hret _ _ _ d3_copy_96 rfl (by rw [show k = c by omega])
      · skip
        exact absurd c21 (by omega)
    | succ f ih =>
      intro k hk
      refine x_iload_n h (pc' := 15) rfl d3_copy_14 0 rfl rfl ?_
      refine x_aload_n h (pc' := 16) rfl d3_copy_15 1 rfl rfl ?_
      refine x_get h (pc' := 19) rfl (fun c q => List.mem_cons_of_mem _ (in3 c q)) 0 0 rfl rfl (by decide) (List.mem_cons_of_mem _ lk3_7) rfl rfl d3_copy_16 ?_
      refine x_iload_n h (pc' := 20) rfl d3_copy_19 2 rfl rfl ?_
      refine x_iald (v := (nI c)) h (pc' := 21) rfl 1 0 rfl rfl (by omega) (by decide) d3_copy_20 ((pk_un hst).trans ec) ?_
      refine x_icmp_ge (tg := 96) h (pc' := 24) rfl d3_copy_21 (by decide) (nI_leI (by omega) (by omega)) (fun c21 => ?_) (fun c21 => ?_)
      · skip
        exact absurd c21 (by omega)
      · skip
        refine x_aload_n h (pc' := 25) rfl d3_copy_24 1 rfl rfl ?_
        refine x_get h (pc' := 28) rfl (fun c q => List.mem_cons_of_mem _ (in3 c q)) 0 1 rfl rfl (by decide) (List.mem_cons_of_mem _ lk3_13) rfl rfl d3_copy_25 ?_
        refine x_bipush (v := (nI 31)) h (pc' := 30) rfl d3_copy_28 (by decide) ?_
        refine x_iload_n h (pc' := 31) rfl d3_copy_30 3 rfl rfl ?_
        refine x_imul (z := (nI (31 * t))) h (pc' := 32) rfl d3_copy_31 (pk_mul 31 t) ?_
        refine x_iload_n h (pc' := 33) rfl d3_copy_32 0 rfl rfl ?_
        refine x_iadd (z := (nI ((31 * t) + k))) h (pc' := 34) rfl d3_copy_33 (nI_add (31 * t) k) ?_
        refine x_aload_n h (pc' := 35) rfl d3_copy_34 1 rfl rfl ?_
        refine x_get h (pc' := 38) rfl (fun c q => List.mem_cons_of_mem _ (in3 c q)) 0 1 rfl rfl (by decide) (List.mem_cons_of_mem _ lk3_13) rfl rfl d3_copy_35 ?_
        refine x_bipush (v := (nI 31)) h (pc' := 40) rfl d3_copy_38 (by decide) ?_
        refine x_iload_n h (pc' := 41) rfl d3_copy_40 2 rfl rfl ?_
        refine x_imul (z := (nI (31 * s))) h (pc' := 42) rfl d3_copy_41 (pk_mul 31 s) ?_
        refine x_iload_n h (pc' := 43) rfl d3_copy_42 0 rfl rfl ?_
        refine x_iadd (z := (nI ((31 * s) + k))) h (pc' := 44) rfl d3_copy_43 (nI_add (31 * s) k) ?_
        refine x_iald (v := ((va_cpy fk fk (31 * s) (31 * t) k) ((31 * s) + k))) h (pc' := 45) rfl 2 0 rfl rfl (by omega) (by decide) d3_copy_44 rfl ?_
        refine x_iast (w' := (wR o a1 a2 a3 a4 a5 cI cZ (upd fc t (nI c)) (upd (va_cpy fk fk (31 * s) (31 * t) k) ((31 * t) + k) ((va_cpy fk fk (31 * s) (31 * t) k) ((31 * s) + k))) (va_cpy fv fv (31 * s) (31 * t) k) (va_cpy fi fi (31 * s) (31 * t) k) fh md dn pe so fl lf ev fe)) h (pc' := 46) rfl 2 0 rfl rfl (by omega) (by decide) d3_copy_45 rfl ?_
        refine x_aload_n h (pc' := 47) rfl d3_copy_46 1 rfl rfl ?_
        refine x_get h (pc' := 50) rfl (fun c q => List.mem_cons_of_mem _ (in3 c q)) 0 2 rfl rfl (by decide) (List.mem_cons_of_mem _ lk3_16) rfl rfl d3_copy_47 ?_
        refine x_bipush (v := (nI 31)) h (pc' := 52) rfl d3_copy_50 (by decide) ?_
        refine x_iload_n h (pc' := 53) rfl d3_copy_52 3 rfl rfl ?_
        refine x_imul (z := (nI (31 * t))) h (pc' := 54) rfl d3_copy_53 (pk_mul 31 t) ?_
        refine x_iload_n h (pc' := 55) rfl d3_copy_54 0 rfl rfl ?_
        refine x_iadd (z := (nI ((31 * t) + k))) h (pc' := 56) rfl d3_copy_55 (nI_add (31 * t) k) ?_
        refine x_aload_n h (pc' := 57) rfl d3_copy_56 1 rfl rfl ?_
        refine x_get h (pc' := 60) rfl (fun c q => List.mem_cons_of_mem _ (in3 c q)) 0 2 rfl rfl (by decide) (List.mem_cons_of_mem _ lk3_16) rfl rfl d3_copy_57 ?_
        refine x_bipush (v := (nI 31)) h (pc' := 62) rfl d3_copy_60 (by decide) ?_
        refine x_iload_n h (pc' := 63) rfl d3_copy_62 2 rfl rfl ?_
        refine x_imul (z := (nI (31 * s))) h (pc' := 64) rfl d3_copy_63 (pk_mul 31 s) ?_
        refine x_iload_n h (pc' := 65) rfl d3_copy_64 0 rfl rfl ?_
        refine x_iadd (z := (nI ((31 * s) + k))) h (pc' := 66) rfl d3_copy_65 (nI_add (31 * s) k) ?_
        refine x_iald (v := ((va_cpy fv fv (31 * s) (31 * t) k) ((31 * s) + k))) h (pc' := 67) rfl 3 0 rfl rfl (by omega) (by decide) d3_copy_66 rfl ?_
        refine x_iast (w' := (wR o a1 a2 a3 a4 a5 cI cZ (upd fc t (nI c)) (upd (va_cpy fk fk (31 * s) (31 * t) k) ((31 * t) + k) ((va_cpy fk fk (31 * s) (31 * t) k) ((31 * s) + k))) (upd (va_cpy fv fv (31 * s) (31 * t) k) ((31 * t) + k) ((va_cpy fv fv (31 * s) (31 * t) k) ((31 * s) + k))) (va_cpy fi fi (31 * s) (31 * t) k) fh md dn pe so fl lf ev fe)) h (pc' := 68) rfl 3 0 rfl rfl (by omega) (by decide) d3_copy_67 rfl ?_
        refine x_aload_n h (pc' := 69) rfl d3_copy_68 1 rfl rfl ?_
        refine x_get h (pc' := 72) rfl (fun c q => List.mem_cons_of_mem _ (in3 c q)) 0 3 rfl rfl (by decide) (List.mem_cons_of_mem _ lk3_19) rfl rfl d3_copy_69 ?_
        refine x_bipush (v := (nI 31)) h (pc' := 74) rfl d3_copy_72 (by decide) ?_
        refine x_iload_n h (pc' := 75) rfl d3_copy_74 3 rfl rfl ?_
        refine x_imul (z := (nI (31 * t))) h (pc' := 76) rfl d3_copy_75 (pk_mul 31 t) ?_
        refine x_iload_n h (pc' := 77) rfl d3_copy_76 0 rfl rfl ?_
        refine x_iadd (z := (nI ((31 * t) + k))) h (pc' := 78) rfl d3_copy_77 (nI_add (31 * t) k) ?_
        refine x_aload_n h (pc' := 79) rfl d3_copy_78 1 rfl rfl ?_
        refine x_get h (pc' := 82) rfl (fun c q => List.mem_cons_of_mem _ (in3 c q)) 0 3 rfl rfl (by decide) (List.mem_cons_of_mem _ lk3_19) rfl rfl d3_copy_79 ?_
        refine x_bipush (v := (nI 31)) h (pc' := 84) rfl d3_copy_82 (by decide) ?_
        refine x_iload_n h (pc' := 85) rfl d3_copy_84 2 rfl rfl ?_
        refine x_imul (z := (nI (31 * s))) h (pc' := 86) rfl d3_copy_85 (pk_mul 31 s) ?_
        refine x_iload_n h (pc' := 87) rfl d3_copy_86 0 rfl rfl ?_
        refine x_iadd (z := (nI ((31 * s) + k))) h (pc' := 88) rfl d3_copy_87 (nI_add (31 * s) k) ?_
        refine x_iald (v := ((va_cpy fi fi (31 * s) (31 * t) k) ((31 * s) + k))) h (pc' := 89) rfl 4 0 rfl rfl (by omega) (by decide) d3_copy_88 rfl ?_
        refine x_iast (w' := (wR o a1 a2 a3 a4 a5 cI cZ (upd fc t (nI c)) (upd (va_cpy fk fk (31 * s) (31 * t) k) ((31 * t) + k) ((va_cpy fk fk (31 * s) (31 * t) k) ((31 * s) + k))) (upd (va_cpy fv fv (31 * s) (31 * t) k) ((31 * t) + k) ((va_cpy fv fv (31 * s) (31 * t) k) ((31 * s) + k))) (upd (va_cpy fi fi (31 * s) (31 * t) k) ((31 * t) + k) ((va_cpy fi fi (31 * s) (31 * t) k) ((31 * s) + k))) fh md dn pe so fl lf ev fe)) h (pc' := 90) rfl 4 0 rfl rfl (by omega) (by decide) d3_copy_89 rfl ?_
        refine x_iinc (lv' := [(3, .int (nI (k + 1))), (0, .ref o), (1, .int (nI s)), (2, .int (nI t))]) h (pc' := 93) rfl d3_copy_90 0 rfl (n_inc k) (by decide) rfl ?_
        refine x_goto (pc' := 14) h d3_copy_93 (by decide) ?_
        refine x_w (w' := (wR o a1 a2 a3 a4 a5 cI cZ (upd fc t (nI c)) (va_cpy fk fk (31 * s) (31 * t) (k + 1)) (va_cpy fv fv (31 * s) (31 * t) (k + 1)) (va_cpy fi fi (31 * s) (31 * t) (k + 1)) fh md dn pe so fl lf ev fe)) (by rw [cpy_s fk (by omega) (by omega), cpy_s fv (by omega) (by omega), cpy_s fi (by omega) (by omega)]) ?_
        exact ih (k + 1) (by omega)
  refine x_aload_n h (pc' := 1) rfl d3_copy_0 0 rfl rfl ?_
  refine x_get h (pc' := 4) rfl (fun c q => List.mem_cons_of_mem _ (in3 c q)) 0 0 rfl rfl (by decide) (List.mem_cons_of_mem _ lk3_7) rfl rfl d3_copy_1 ?_
  refine x_iload_n h (pc' := 5) rfl d3_copy_4 2 rfl rfl ?_
  refine x_aload_n h (pc' := 6) rfl d3_copy_5 0 rfl rfl ?_
  refine x_get h (pc' := 9) rfl (fun c q => List.mem_cons_of_mem _ (in3 c q)) 0 0 rfl rfl (by decide) (List.mem_cons_of_mem _ lk3_7) rfl rfl d3_copy_6 ?_
  refine x_iload_n h (pc' := 10) rfl d3_copy_9 1 rfl rfl ?_
  refine x_iald (v := (nI c)) h (pc' := 11) rfl 1 0 rfl rfl (by omega) (by decide) d3_copy_10 ec ?_
  refine x_iast (w' := (wR o a1 a2 a3 a4 a5 cI cZ (upd fc t (nI c)) fk fv fi fh md dn pe so fl lf ev fe)) h (pc' := 12) rfl 1 0 rfl rfl (by omega) (by decide) d3_copy_11 rfl ?_
  refine x_iconst (v := (nI 0)) h (pc' := 13) rfl d3_copy_12 (by decide) ?_
  refine x_istore_n (lv' := [(3, .int (nI 0)), (0, .ref o), (1, .int (nI s)), (2, .int (nI t))]) h (pc' := 14) rfl d3_copy_13 rfl (by decide) rfl ?_
  refine x_w (w' := (wR o a1 a2 a3 a4 a5 cI cZ (upd fc t (nI c)) (va_cpy fk fk (31 * s) (31 * t) 0) (va_cpy fv fv (31 * s) (31 * t) 0) (va_cpy fi fi (31 * s) (31 * t) 0) fh md dn pe so fl lf ev fe)) (by rw [cpy_0, cpy_0, cpy_0]) ?_
  exact lp c 0 (by omega)
