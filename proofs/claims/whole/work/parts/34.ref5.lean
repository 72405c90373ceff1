set_option maxRecDepth 100000 in
set_option maxHeartbeats 4000000 in
theorem k3_settle (l : Launch) (D : va_G) (cI cZ cS : ClassId) (o a1 a2 a3 a4 a5 : Nat) (fc fk fv fi fh : Nat → Int32) (dn pe so fl lf ev fe : Int32) (n0 n3 made : Nat) (h0 : n0 ≤ 31) (h3 : n3 ≤ 31) (hm : made + 31 < 2 ^ 31) (e0 : fc 0 = nI n0) (e3 : fc 3 = nI n3) : CI l y3_settle w3_settle (rmd 4) D (TS3 cI cZ cS) [.ref o] (wR o a1 a2 a3 a4 a5 cI cZ fc fk fv fi fh (nI made) dn pe so fl lf ev fe) (fun r w' => r = nI (nwR fk fv n3 n0 n3) ∧ w' = (wR o a1 a2 a3 a4 a5 cI cZ fc fk fv (stR fi fk fv n3 n0 made n3) fh (nI (made + nwR fk fv n3 n0 n3)) dn pe so fl lf ev fe)) := by
  refine x_metI (lv := [(0, .ref o)]) (by decide +kernel) rfl rfl (Nat.le_of_ble_eq_true rfl) rfl ?_
  intro X h hret
  have lp : ∀ f m : Nat, m + f = n3 → WX X 0 0 5 [(2, .int (nI (93 + m))), (1, .int (nI (nwR fk fv n3 n0 m))), (0, .ref o)] (wR o a1 a2 a3 a4 a5 cI cZ fc fk fv (stR fi fk fv n3 n0 made m) fh (nI (made + nwR fk fv n3 n0 m)) dn pe so fl lf ev fe) [] := by
    intro f
    induction f with
    | zero =>
      intro m hi
      obtain rfl : m = n3 := by omega
      refine x_iload_n h (pc' := 6) rfl d3_settle_5 0 rfl rfl ?_
      refine x_bipush (v := (nI 93)) h (pc' := 8) rfl d3_settle_6 (by decide) ?_
      refine x_aload_n h (pc' := 9) rfl d3_settle_8 2 rfl rfl ?_
      refine x_get h (pc' := 12) rfl (fun c q => List.mem_cons_of_mem _ (in3 c q)) 0 0 rfl rfl (by decide) (List.mem_cons_of_mem _ lk3_7) rfl rfl d3_settle_9 ?_
      refine x_iconst (v := (nI 3)) h (pc' := 13) rfl d3_settle_12 (by decide) ?_
      refine x_iald (v := (nI m)) h (pc' := 14) rfl 1 0 rfl rfl (by omega) (by decide) d3_settle_13 e3 ?_
      refine x_iadd (z := (nI (93 + m))) h (pc' := 15) rfl d3_settle_14 (nI_add 93 m) ?_
      refine x_icmp_ge (tg := 114) h (pc' := 18) rfl d3_settle_15 (by decide) (nI_leI (by omega) (by omega)) (fun c15 => ?_) (fun c15 => ?_)
      · skip
        refine x_iload_n h (pc' := 115) rfl d3_settle_114 1 rfl rfl ?_
        exact hret _ _ _ _ d3_settle_115 rfl ⟨rfl, rfl⟩
      · skip
        exact absurd c15 (by omega)
    | succ f ih =>
      intro m hi
      have hnw : nwR fk fv n3 n0 m ≤ m := cntF_le _ _
      refine x_iload_n h (pc' := 6) rfl d3_settle_5 0 rfl rfl ?_
      refine x_bipush (v := (nI 93)) h (pc' := 8) rfl d3_settle_6 (by decide) ?_
      refine x_aload_n h (pc' := 9) rfl d3_settle_8 2 rfl rfl ?_
      refine x_get h (pc' := 12) rfl (fun c q => List.mem_cons_of_mem _ (in3 c q)) 0 0 rfl rfl (by decide) (List.mem_cons_of_mem _ lk3_7) rfl rfl d3_settle_9 ?_
      refine x_iconst (v := (nI 3)) h (pc' := 13) rfl d3_settle_12 (by decide) ?_
      refine x_iald (v := (nI n3)) h (pc' := 14) rfl 1 0 rfl rfl (by omega) (by decide) d3_settle_13 e3 ?_
      refine x_iadd (z := (nI (93 + n3))) h (pc' := 15) rfl d3_settle_14 (nI_add 93 n3) ?_
      refine x_icmp_ge (tg := 114) h (pc' := 18) rfl d3_settle_15 (by decide) (nI_leI (by omega) (by omega)) (fun c15 => ?_) (fun c15 => ?_)
      · skip
        exact absurd c15 (by omega)
      · skip
        refine x_aload_n h (pc' := 19) rfl d3_settle_18 2 rfl rfl ?_
        refine x_iconst (v := (nI 0)) h (pc' := 20) rfl d3_settle_19 (by decide) ?_
        refine x_aload_n h (pc' := 21) rfl d3_settle_20 2 rfl rfl ?_
        refine x_get h (pc' := 24) rfl (fun c q => List.mem_cons_of_mem _ (in3 c q)) 0 1 rfl rfl (by decide) (List.mem_cons_of_mem _ lk3_13) rfl rfl d3_settle_21 ?_
        refine x_iload_n h (pc' := 25) rfl d3_settle_24 0 rfl rfl ?_
        refine x_iald (v := (sec fk 3 m)) h (pc' := 26) rfl 2 0 rfl rfl (by omega) (by decide) d3_settle_25 rfl ?_
        -- find
        refine x_vI h (pc' := 29) rfl [.int (nI 0), .int (sec fk 3 m)] (k3_find l D cI cZ cS o a1 a2 a3 a4 a5 fc fk fv (stR fi fk fv n3 n0 made m) fh (nI (made + nwR fk fv n3 n0 m)) dn pe so fl lf ev fe 0 n0 (by omega) h0 e0 (sec fk 3 m)) d3_settle_26 2 (gd_V ml3_51 im3_find se3_find ini3 cd3_find) rfl ⟨rfl, rfl⟩ hd3_find ⟨by decide, by decide⟩ ⟨Nat.zero_le _, Nat.zero_le _⟩ 0 rfl rfl rfl [0, 1, 2, 3, 4, 5] rfl rfl rfl (Nat.le_of_ble_eq_true rfl) rfl (fun rr26 ww26 pp26 ee26 => ?_)
        obtain ⟨rfl, rfl⟩ := pp26
        rcases hq : fnK (sec fk 0) n0 (sec fk 3 m) with _ | i
        · skip
          refine x_w (w' := (wR o a1 a2 a3 a4 a5 cI cZ fc fk fv (stR fi fk fv n3 n0 made m) fh (nI (made + nwR fk fv n3 n0 m)) dn pe so fl lf ev fe)) rfl ?_
          refine x_top (y := (-1)) rfl ?_
          refine x_istore_n (lv' := [(3, .int (-1)), (2, .int (nI (93 + m))), (1, .int (nI (nwR fk fv n3 n0 m))), (0, .ref o)]) h (pc' := 30) rfl d3_settle_29 rfl (by decide) rfl ?_
          refine x_iload_n h (pc' := 31) rfl d3_settle_30 0 rfl rfl ?_
          refine x_if_lt (tg := 49) h (pc' := 34) rfl d3_settle_31 (by decide) Iff.rfl (fun c31 => ?_) (fun c31 => ?_)
          · skip
            refine x_iconst (v := (nI 0)) h (pc' := 50) rfl d3_settle_49 (by decide) ?_
            refine x_top (y := (bi false)) rfl ?_
            have hk : kpR fk fv n3 n0 m = false := by show (match fnK (sec fk 0) n0 (sec fk 3 m) with | none => false | some b => _) = _; rw [hq]
            refine x_istore (lv' := [(4, .int (bi false)), (3, .int (-1)), (2, .int (nI (93 + m))), (1, .int (nI (nwR fk fv n3 n0 m))), (0, .ref o)]) h (pc' := 52) rfl d3_settle_50 (by decide) rfl ?_
            refine x_iload_n h (pc' := 53) rfl d3_settle_52 3 rfl rfl ?_
            refine x_iload h (pc' := 55) rfl d3_settle_53 0 rfl ?_
            refine x_if_eq (tg := 62) h (pc' := 58) rfl d3_settle_55 (by decide) (bi_0 _) (fun c55 => ?_) (fun c55 => ?_)
            · skip
              refine x_iconst (v := (nI 1)) h (pc' := 63) rfl d3_settle_62 (by decide) ?_
              refine x_iadd (z := (nI ((nwR fk fv n3 n0 m) + 1))) h (pc' := 64) rfl d3_settle_63 (nI_add (nwR fk fv n3 n0 m) 1) ?_
              refine x_istore_n (lv' := [(1, .int (nI ((nwR fk fv n3 n0 m) + 1))), (4, .int (bi false)), (3, .int (-1)), (2, .int (nI (93 + m))), (0, .ref o)]) h (pc' := 65) rfl d3_settle_64 rfl (by decide) rfl ?_
              refine x_aload_n h (pc' := 66) rfl d3_settle_65 4 rfl rfl ?_
              refine x_dup h (pc' := 67) rfl d3_settle_66 rfl ?_
              refine x_get h (pc' := 70) rfl (fun c q => List.mem_cons_of_mem _ (in3 c q)) 0 5 rfl rfl (by decide) (List.mem_cons_of_mem _ lk3_58) rfl rfl d3_settle_67 ?_
              refine x_iload h (pc' := 72) rfl d3_settle_70 1 rfl ?_
              refine x_if_eq (tg := 79) h (pc' := 75) rfl d3_settle_72 (by decide) (bi_0 _) (fun c72 => ?_) (fun c72 => ?_)
              · skip
                refine x_iconst (v := (nI 1)) h (pc' := 80) rfl d3_settle_79 (by decide) ?_
                refine x_iadd (z := (nI ((made + nwR fk fv n3 n0 m) + 1))) h (pc' := 81) rfl d3_settle_80 (nI_add (made + nwR fk fv n3 n0 m) 1) ?_
                refine x_put (w' := (wR o a1 a2 a3 a4 a5 cI cZ fc fk fv (stR fi fk fv n3 n0 made m) fh (nI ((made + nwR fk fv n3 n0 m) + 1)) dn pe so fl lf ev fe)) (ty := .int) h (pc' := 84) rfl (fun c q => List.mem_cons_of_mem _ (in3 c q)) ok3 nm3 0 5 rfl rfl (by decide) (List.mem_cons_of_mem _ lk3_58) rfl rfl rfl rfl rfl (Nat.le_of_ble_eq_true rfl) rfl d3_settle_81 ?_
                refine x_aload_n h (pc' := 85) rfl d3_settle_84 4 rfl rfl ?_
                refine x_get h (pc' := 88) rfl (fun c q => List.mem_cons_of_mem _ (in3 c q)) 0 3 rfl rfl (by decide) (List.mem_cons_of_mem _ lk3_19) rfl rfl d3_settle_85 ?_
                refine x_iload_n h (pc' := 89) rfl d3_settle_88 3 rfl rfl ?_
                refine x_iload h (pc' := 91) rfl d3_settle_89 1 rfl ?_
                refine x_if_eq (tg := 103) h (pc' := 94) rfl d3_settle_91 (by decide) (bi_0 _) (fun c91 => ?_) (fun c91 => ?_)
                · skip
                  refine x_aload_n h (pc' := 104) rfl d3_settle_103 4 rfl rfl ?_
                  refine x_get h (pc' := 107) rfl (fun c q => List.mem_cons_of_mem _ (in3 c q)) 0 5 rfl rfl (by decide) (List.mem_cons_of_mem _ lk3_58) rfl rfl d3_settle_104 ?_
                  refine x_iast (w' := (wR o a1 a2 a3 a4 a5 cI cZ fc fk fv (upd (stR fi fk fv n3 n0 made m) (93 + m) (nI ((made + nwR fk fv n3 n0 m) + 1))) fh (nI ((made + nwR fk fv n3 n0 m) + 1)) dn pe so fl lf ev fe)) h (pc' := 108) rfl 4 0 rfl rfl (by omega) (by decide) d3_settle_107 rfl ?_
                  refine x_iinc (lv' := [(2, .int (nI ((93 + m) + 1))), (1, .int (nI ((nwR fk fv n3 n0 m) + 1))), (4, .int (bi false)), (3, .int (-1)), (0, .ref o)]) h (pc' := 111) rfl d3_settle_108 3 rfl (n_inc (93 + m)) (by decide) rfl ?_
                  refine x_goto (pc' := 5) h d3_settle_111 (by decide) ?_
                  have en : nwR fk fv n3 n0 (m + 1) = nwR fk fv n3 n0 m + 1 := cntF_add1 (by rw [hk]; rfl)
                  have ef : upd (stR fi fk fv n3 n0 made m) (93 + m) (nI ((made + nwR fk fv n3 n0 m) + 1)) = stR fi fk fv n3 n0 made (m + 1) := setl_s (by rw [hk]; show nI _ = nI (made + nwR fk fv n3 n0 (m + 1)); rw [en]; congr 1)
                  refine x_lv (lv' := [(2, .int (nI (93 + (m + 1)))), (1, .int (nI ((nwR fk fv n3 n0 m) + 1))), (0, .ref o)]) [0, 1, 4] rfl ?_
                  rw [ef, show (nwR fk fv n3 n0 m) + 1 = nwR fk fv n3 n0 (m + 1) by omega, show (made + nwR fk fv n3 n0 m) + 1 = made + nwR fk fv n3 n0 (m + 1) by omega]
                  exact ih (m + 1) (by omega)
                · skip
                  exact absurd rfl c91
              · skip
                exact absurd rfl c72
            · skip
              exact absurd rfl c55
          · skip
            exact absurd (by decide) c31
        · skip
          have hb := fnK_some hq
          refine x_w (w' := (wR o a1 a2 a3 a4 a5 cI cZ fc fk fv (stR fi fk fv n3 n0 made m) fh (nI (made + nwR fk fv n3 n0 m)) dn pe so fl lf ev fe)) rfl ?_
          refine x_top (y := (nI (31 * 0 + i))) rfl ?_
          refine x_istore_n (lv' := [(3, .int (nI (31 * 0 + i))), (2, .int (nI (93 + m))), (1, .int (nI (nwR fk fv n3 n0 m))), (0, .ref o)]) h (pc' := 30) rfl d3_settle_29 rfl (by decide) rfl ?_
          refine x_iload_n h (pc' := 31) rfl d3_settle_30 0 rfl rfl ?_
          refine x_if_lt (tg := 49) h (pc' := 34) rfl d3_settle_31 (by decide) (n_lt0 (by omega)) (fun c31 => ?_) (fun c31 => ?_)
          · skip
            exact absurd c31 (by omega)
          · skip
            refine x_aload_n h (pc' := 35) rfl d3_settle_34 3 rfl rfl ?_
            refine x_iconst (v := (nI 3)) h (pc' := 36) rfl d3_settle_35 (by decide) ?_
            refine x_iload_n h (pc' := 37) rfl d3_settle_36 1 rfl rfl ?_
            refine x_iconst (v := (nI 0)) h (pc' := 38) rfl d3_settle_37 (by decide) ?_
            refine x_iload_n h (pc' := 39) rfl d3_settle_38 0 rfl rfl ?_
            -- same
            refine x_vI h (pc' := 42) rfl [.int (nI 3), .int (nI (93 + m)), .int (nI 0), .int (nI (31 * 0 + i))] (k3_same l D cI cZ cS o a1 a2 a3 a4 a5 fc fk fv (stR fi fk fv n3 n0 made m) fh (nI (made + nwR fk fv n3 n0 m)) dn pe so fl lf ev fe 3 0 n3 n0 m i (by omega) (by omega) h3 h0 e3 e0 (by omega) hb.1) d3_settle_39 4 (gd_V ml3_54 im3_same se3_same ini3 cd3_same) rfl ⟨rfl, rfl⟩ hd3_same ⟨by decide, by decide⟩ ⟨Nat.zero_le _, Nat.zero_le _⟩ 0 rfl rfl rfl [0, 1, 2, 3, 4, 5] rfl rfl rfl (Nat.le_of_ble_eq_true rfl) rfl (fun rr39 ww39 pp39 ee39 => ?_)
            obtain ⟨rfl, rfl⟩ := pp39
            refine x_w (w' := (wR o a1 a2 a3 a4 a5 cI cZ fc fk fv (stR fi fk fv n3 n0 made m) fh (nI (made + nwR fk fv n3 n0 m)) dn pe so fl lf ev fe)) rfl ?_
            refine x_if_eq (tg := 49) h (pc' := 45) rfl d3_settle_42 (by decide) (bi_0 _) (fun c42 => ?_) (fun c42 => ?_)
            · skip
              refine x_iconst (v := (nI 0)) h (pc' := 50) rfl d3_settle_49 (by decide) ?_
              refine x_top (y := (bi false)) rfl ?_
              have hk : kpR fk fv n3 n0 m = false := by show (match fnK (sec fk 0) n0 (sec fk 3 m) with | none => false | some b => _) = _; rw [hq]; exact c42
              refine x_istore (lv' := [(4, .int (bi false)), (3, .int (nI (31 * 0 + i))), (2, .int (nI (93 + m))), (1, .int (nI (nwR fk fv n3 n0 m))), (0, .ref o)]) h (pc' := 52) rfl d3_settle_50 (by decide) rfl ?_
              refine x_iload_n h (pc' := 53) rfl d3_settle_52 3 rfl rfl ?_
              refine x_iload h (pc' := 55) rfl d3_settle_53 0 rfl ?_
              refine x_if_eq (tg := 62) h (pc' := 58) rfl d3_settle_55 (by decide) (bi_0 _) (fun c55 => ?_) (fun c55 => ?_)
              · skip
                refine x_iconst (v := (nI 1)) h (pc' := 63) rfl d3_settle_62 (by decide) ?_
                refine x_iadd (z := (nI ((nwR fk fv n3 n0 m) + 1))) h (pc' := 64) rfl d3_settle_63 (nI_add (nwR fk fv n3 n0 m) 1) ?_
                refine x_istore_n (lv' := [(1, .int (nI ((nwR fk fv n3 n0 m) + 1))), (4, .int (bi false)), (3, .int (nI (31 * 0 + i))), (2, .int (nI (93 + m))), (0, .ref o)]) h (pc' := 65) rfl d3_settle_64 rfl (by decide) rfl ?_
                refine x_aload_n h (pc' := 66) rfl d3_settle_65 4 rfl rfl ?_
                refine x_dup h (pc' := 67) rfl d3_settle_66 rfl ?_
                refine x_get h (pc' := 70) rfl (fun c q => List.mem_cons_of_mem _ (in3 c q)) 0 5 rfl rfl (by decide) (List.mem_cons_of_mem _ lk3_58) rfl rfl d3_settle_67 ?_
                refine x_iload h (pc' := 72) rfl d3_settle_70 1 rfl ?_
                refine x_if_eq (tg := 79) h (pc' := 75) rfl d3_settle_72 (by decide) (bi_0 _) (fun c72 => ?_) (fun c72 => ?_)
                · skip
                  refine x_iconst (v := (nI 1)) h (pc' := 80) rfl d3_settle_79 (by decide) ?_
                  refine x_iadd (z := (nI ((made + nwR fk fv n3 n0 m) + 1))) h (pc' := 81) rfl d3_settle_80 (nI_add (made + nwR fk fv n3 n0 m) 1) ?_
                  refine x_put (w' := (wR o a1 a2 a3 a4 a5 cI cZ fc fk fv (stR fi fk fv n3 n0 made m) fh (nI ((made + nwR fk fv n3 n0 m) + 1)) dn pe so fl lf ev fe)) (ty := .int) h (pc' := 84) rfl (fun c q => List.mem_cons_of_mem _ (in3 c q)) ok3 nm3 0 5 rfl rfl (by decide) (List.mem_cons_of_mem _ lk3_58) rfl rfl rfl rfl rfl (Nat.le_of_ble_eq_true rfl) rfl d3_settle_81 ?_
                  refine x_aload_n h (pc' := 85) rfl d3_settle_84 4 rfl rfl ?_
                  refine x_get h (pc' := 88) rfl (fun c q => List.mem_cons_of_mem _ (in3 c q)) 0 3 rfl rfl (by decide) (List.mem_cons_of_mem _ lk3_19) rfl rfl d3_settle_85 ?_
                  refine x_iload_n h (pc' := 89) rfl d3_settle_88 3 rfl rfl ?_
                  refine x_iload h (pc' := 91) rfl d3_settle_89 1 rfl ?_
                  refine x_if_eq (tg := 103) h (pc' := 94) rfl d3_settle_91 (by decide) (bi_0 _) (fun c91 => ?_) (fun c91 => ?_)
                  · skip
                    refine x_aload_n h (pc' := 104) rfl d3_settle_103 4 rfl rfl ?_
                    refine x_get h (pc' := 107) rfl (fun c q => List.mem_cons_of_mem _ (in3 c q)) 0 5 rfl rfl (by decide) (List.mem_cons_of_mem _ lk3_58) rfl rfl d3_settle_104 ?_
                    refine x_iast (w' := (wR o a1 a2 a3 a4 a5 cI cZ fc fk fv (upd (stR fi fk fv n3 n0 made m) (93 + m) (nI ((made + nwR fk fv n3 n0 m) + 1))) fh (nI ((made + nwR fk fv n3 n0 m) + 1)) dn pe so fl lf ev fe)) h (pc' := 108) rfl 4 0 rfl rfl (by omega) (by decide) d3_settle_107 rfl ?_
                    refine x_iinc (lv' := [(2, .int (nI ((93 + m) + 1))), (1, .int (nI ((nwR fk fv n3 n0 m) + 1))), (4, .int (bi false)), (3, .int (nI (31 * 0 + i))), (0, .ref o)]) h (pc' := 111) rfl d3_settle_108 3 rfl (n_inc (93 + m)) (by decide) rfl ?_
                    refine x_goto (pc' := 5) h d3_settle_111 (by decide) ?_
                    have en : nwR fk fv n3 n0 (m + 1) = nwR fk fv n3 n0 m + 1 := cntF_add1 (by rw [hk]; rfl)
                    have ef : upd (stR fi fk fv n3 n0 made m) (93 + m) (nI ((made + nwR fk fv n3 n0 m) + 1)) = stR fi fk fv n3 n0 made (m + 1) := setl_s (by rw [hk]; show nI _ = nI (made + nwR fk fv n3 n0 (m + 1)); rw [en]; congr 1)
                    refine x_lv (lv' := [(2, .int (nI (93 + (m + 1)))), (1, .int (nI ((nwR fk fv n3 n0 m) + 1))), (0, .ref o)]) [0, 1, 4] rfl ?_
                    rw [ef, show (nwR fk fv n3 n0 m) + 1 = nwR fk fv n3 n0 (m + 1) by omega, show (made + nwR fk fv n3 n0 m) + 1 = made + nwR fk fv n3 n0 (m + 1) by omega]
                    exact ih (m + 1) (by omega)
                  · skip
                    exact absurd rfl c91
                · skip
                  exact absurd rfl c72
              · skip
                exact absurd rfl c55
            · skip
              refine x_iconst (v := (nI 1)) h (pc' := 46) rfl d3_settle_45 (by decide) ?_
              refine x_goto (pc' := 50) h d3_settle_46 (by decide) ?_
              refine x_top (y := (bi true)) rfl ?_
              have hk : kpR fk fv n3 n0 m = true := by show (match fnK (sec fk 0) n0 (sec fk 3 m) with | none => false | some b => _) = _; rw [hq]; exact ne_f c42
              refine x_istore (lv' := [(4, .int (bi true)), (3, .int (nI (31 * 0 + i))), (2, .int (nI (93 + m))), (1, .int (nI (nwR fk fv n3 n0 m))), (0, .ref o)]) h (pc' := 52) rfl d3_settle_50 (by decide) rfl ?_
              refine x_iload_n h (pc' := 53) rfl d3_settle_52 3 rfl rfl ?_
              refine x_iload h (pc' := 55) rfl d3_settle_53 0 rfl ?_
              refine x_if_eq (tg := 62) h (pc' := 58) rfl d3_settle_55 (by decide) (bi_0 _) (fun c55 => ?_) (fun c55 => ?_)
              · skip
                cases c55
              · skip
                refine x_iconst (v := (nI 0)) h (pc' := 59) rfl d3_settle_58 (by decide) ?_
                refine x_goto (pc' := 63) h d3_settle_59 (by decide) ?_
                refine x_iadd (z := (nI ((nwR fk fv n3 n0 m) + 0))) h (pc' := 64) rfl d3_settle_63 (nI_add (nwR fk fv n3 n0 m) 0) ?_
                refine x_istore_n (lv' := [(1, .int (nI ((nwR fk fv n3 n0 m) + 0))), (4, .int (bi true)), (3, .int (nI (31 * 0 + i))), (2, .int (nI (93 + m))), (0, .ref o)]) h (pc' := 65) rfl d3_settle_64 rfl (by decide) rfl ?_
                refine x_aload_n h (pc' := 66) rfl d3_settle_65 4 rfl rfl ?_
                refine x_dup h (pc' := 67) rfl d3_settle_66 rfl ?_
                refine x_get h (pc' := 70) rfl (fun c q => List.mem_cons_of_mem _ (in3 c q)) 0 5 rfl rfl (by decide) (List.mem_cons_of_mem _ lk3_58) rfl rfl d3_settle_67 ?_
                refine x_iload h (pc' := 72) rfl d3_settle_70 1 rfl ?_
                refine x_if_eq (tg := 79) h (pc' := 75) rfl d3_settle_72 (by decide) (bi_0 _) (fun c72 => ?_) (fun c72 => ?_)
                · skip
                  cases c72
                · skip
                  refine x_iconst (v := (nI 0)) h (pc' := 76) rfl d3_settle_75 (by decide) ?_
                  refine x_goto (pc' := 80) h d3_settle_76 (by decide) ?_
                  refine x_iadd (z := (nI ((made + nwR fk fv n3 n0 m) + 0))) h (pc' := 81) rfl d3_settle_80 (nI_add (made + nwR fk fv n3 n0 m) 0) ?_
                  refine x_put (w' := (wR o a1 a2 a3 a4 a5 cI cZ fc fk fv (stR fi fk fv n3 n0 made m) fh (nI ((made + nwR fk fv n3 n0 m) + 0)) dn pe so fl lf ev fe)) (ty := .int) h (pc' := 84) rfl (fun c q => List.mem_cons_of_mem _ (in3 c q)) ok3 nm3 0 5 rfl rfl (by decide) (List.mem_cons_of_mem _ lk3_58) rfl rfl rfl rfl rfl (Nat.le_of_ble_eq_true rfl) rfl d3_settle_81 ?_
                  refine x_aload_n h (pc' := 85) rfl d3_settle_84 4 rfl rfl ?_
                  refine x_get h (pc' := 88) rfl (fun c q => List.mem_cons_of_mem _ (in3 c q)) 0 3 rfl rfl (by decide) (List.mem_cons_of_mem _ lk3_19) rfl rfl d3_settle_85 ?_
                  refine x_iload_n h (pc' := 89) rfl d3_settle_88 3 rfl rfl ?_
                  refine x_iload h (pc' := 91) rfl d3_settle_89 1 rfl ?_
                  refine x_if_eq (tg := 103) h (pc' := 94) rfl d3_settle_91 (by decide) (bi_0 _) (fun c91 => ?_) (fun c91 => ?_)
                  · skip
                    cases c91
                  · skip
                    refine x_aload_n h (pc' := 95) rfl d3_settle_94 4 rfl rfl ?_
                    refine x_get h (pc' := 98) rfl (fun c q => List.mem_cons_of_mem _ (in3 c q)) 0 3 rfl rfl (by decide) (List.mem_cons_of_mem _ lk3_19) rfl rfl d3_settle_95 ?_
                    refine x_iload_n h (pc' := 99) rfl d3_settle_98 2 rfl rfl ?_
                    refine x_iald (v := (fi (31 * 0 + i))) h (pc' := 100) rfl 4 0 rfl rfl (by omega) (by decide) d3_settle_99 (setl_lo (by omega)) ?_
                    refine x_goto (pc' := 107) h d3_settle_100 (by decide) ?_
                    refine x_iast (w' := (wR o a1 a2 a3 a4 a5 cI cZ fc fk fv (upd (stR fi fk fv n3 n0 made m) (93 + m) (fi (31 * 0 + i))) fh (nI ((made + nwR fk fv n3 n0 m) + 0)) dn pe so fl lf ev fe)) h (pc' := 108) rfl 4 0 rfl rfl (by omega) (by decide) d3_settle_107 rfl ?_
                    refine x_iinc (lv' := [(2, .int (nI ((93 + m) + 1))), (1, .int (nI ((nwR fk fv n3 n0 m) + 0))), (4, .int (bi true)), (3, .int (nI (31 * 0 + i))), (0, .ref o)]) h (pc' := 111) rfl d3_settle_108 3 rfl (n_inc (93 + m)) (by decide) rfl ?_
                    refine x_goto (pc' := 5) h d3_settle_111 (by decide) ?_
                    have en : nwR fk fv n3 n0 (m + 1) = nwR fk fv n3 n0 m + 0 := cntF_add0 (by rw [hk]; rfl)
                    have ef : upd (stR fi fk fv n3 n0 made m) (93 + m) (fi (31 * 0 + i)) = stR fi fk fv n3 n0 made (m + 1) := setl_s (by rw [hk]; show fi (31 * 0 + i) = fi ((fnK (sec fk 0) n0 (sec fk 3 m)).getD 0); rw [hq]; show fi (31 * 0 + i) = fi i; congr 1; omega)
                    refine x_lv (lv' := [(2, .int (nI (93 + (m + 1)))), (1, .int (nI ((nwR fk fv n3 n0 m) + 0))), (0, .ref o)]) [0, 1, 4] rfl ?_
                    rw [ef, show (nwR fk fv n3 n0 m) + 0 = nwR fk fv n3 n0 (m + 1) by omega, show (made + nwR fk fv n3 n0 m) + 0 = made + nwR fk fv n3 n0 (m + 1) by omega]
                    exact ih (m + 1) (by omega)
  refine x_iconst (v := (nI 0)) h (pc' := 1) rfl d3_settle_0 (by decide) ?_
  refine x_istore_n (lv' := [(1, .int (nI 0)), (0, .ref o)]) h (pc' := 2) rfl d3_settle_1 rfl (by decide) rfl ?_
  refine x_bipush (v := (nI 93)) h (pc' := 4) rfl d3_settle_2 (by decide) ?_
  refine x_istore_n (lv' := [(2, .int (nI 93)), (1, .int (nI 0)), (0, .ref o)]) h (pc' := 5) rfl d3_settle_4 rfl (by decide) rfl ?_
  refine x_w (w' := (wR o a1 a2 a3 a4 a5 cI cZ fc fk fv (stR fi fk fv n3 n0 made 0) fh (nI (made + nwR fk fv n3 n0 0)) dn pe so fl lf ev fe)) (by show _ = wR _ _ _ _ _ _ _ _ _ _ _ (setl fi made _ _ 0) _ _ _ _ _ _ _ _ _; rw [setl_0]; rfl) ?_
  exact lp n3 0 (by omega)
/-- what change does: refused, done, cut -/
def chR (o a1 a2 a3 a4 a5 : Nat) (cI cZ : ClassId) (fc fk fv fi fh : Nat → Int32) (dn pe so fl lf ev fe : Int32) (n0 m1 m2 n3 made : Nat) (t1 t2 : Bool) (r : Int32) (w' : va_W) : Prop :=
  (64 < (useR fi n0 m1 m2 t1 t2) + (nwR fk fv n3 n0 n3) ∧ r = -5 ∧ w' = (wR o a1 a2 a3 a4 a5 cI cZ fc fk fv (stR fi fk fv n3 n0 made n3) fh (nI (made + (nwR fk fv n3 n0 n3))) dn pe so fl lf ev fe)) ∨
  ((useR fi n0 m1 m2 t1 t2) + (nwR fk fv n3 n0 n3) ≤ 64 ∧ (lf < 0 ∨ nI (5 * (nwR fk fv n3 n0 n3) + 4) ≤ lf) ∧ r = nI (nwR fk fv n3 n0 n3) ∧ w' = (wR o a1 a2 a3 a4 a5 cI cZ (upd fc 0 (nI n3)) (va_cpy fk fk (31 * 3) (31 * 0) n3) (va_cpy fv fv (31 * 3) (31 * 0) n3) (va_cpy (stR fi fk fv n3 n0 made n3) (stR fi fk fv n3 n0 made n3) (31 * 3) (31 * 0) n3) fh (nI (made + (nwR fk fv n3 n0 n3))) dn pe so fl (if lf < 0 then -1 else lf - nI (5 * (nwR fk fv n3 n0 n3) + 4)) (ev + nI (5 * (nwR fk fv n3 n0 n3) + 4)) (fe + nI 2))) ∨
  ((useR fi n0 m1 m2 t1 t2) + (nwR fk fv n3 n0 n3) ≤ 64 ∧ ¬ lf < 0 ∧ lf < nI (5 * (nwR fk fv n3 n0 n3) + 4) ∧ r = -2 ∧ w' = (wR o a1 a2 a3 a4 a5 cI cZ fc fk fv (stR fi fk fv n3 n0 made n3) fh (nI (made + (nwR fk fv n3 n0 n3))) 1 1 (bi (decide (nI (5 * (nwR fk fv n3 n0 n3) + 2) ≤ lf))) (bi (decide (nI (5 * (nwR fk fv n3 n0 n3) + 3) ≤ lf))) (-1) (ev + lf) (fe + bi (decide (nI (5 * (nwR fk fv n3 n0 n3)) < lf)))))
set_option maxRecDepth 100000 in
set_option maxHeartbeats 4000000 in
theorem k3_change (l : Launch) (D : va_G) (cI cZ cS : ClassId) (o a1 a2 a3 a4 a5 : Nat) (fc fk fv fi fh : Nat → Int32) (dn pe so fl lf ev fe : Int32) (n0 m1 m2 n3 made : Nat) (t1 t2 : Bool) (h0 : n0 ≤ 31) (h1 : m1 ≤ 31) (h2 : m2 ≤ 31) (h3 : n3 ≤ 31) (hm : made + 31 < 2 ^ 31) (e0 : fc 0 = nI n0) (e1 : fc 1 = nI m1) (e2 : fc 2 = nI m2) (e3 : fc 3 = nI n3) (u1 : fh 1 = bi t1) (u2 : fh 2 = bi t2) : CI l y3_change w3_change (rmd 5) D (TS3 cI cZ cS) [.ref o] (wR o a1 a2 a3 a4 a5 cI cZ fc fk fv fi fh (nI made) dn pe so fl lf ev fe) (fun r w' => chR o a1 a2 a3 a4 a5 cI cZ fc fk fv fi fh dn pe so fl lf ev fe n0 m1 m2 n3 made t1 t2 r w') := by
  refine x_metI (lv := [(0, .ref o)]) (by decide +kernel) rfl rfl (Nat.le_of_ble_eq_true rfl) rfl ?_
  intro X h hret
  have hU : (useR fi n0 m1 m2 t1 t2) ≤ n0 + m1 + m2 := useC_le
  have hN : (nwR fk fv n3 n0 n3) ≤ n3 := cntF_le _ _
  have eU : useR (stR fi fk fv n3 n0 made n3) n0 m1 m2 t1 t2 = (useR fi n0 m1 m2 t1 t2) := useR_congr h0 h1 h2 (fun x hx => setl_lo hx)
  unfold chR at hret
  generalize (useR fi n0 m1 m2 t1 t2) = U at hret hU eU
  generalize eN : (nwR fk fv n3 n0 n3) = N at hret hN
  refine x_aload_n h (pc' := 1) rfl d3_change_0 0 rfl rfl ?_
  -- settle
  refine x_vI h (pc' := 4) rfl [] (k3_settle l D cI cZ cS o a1 a2 a3 a4 a5 fc fk fv fi fh dn pe so fl lf ev fe n0 n3 made h0 h3 hm e0 e3) d3_change_1 0 (gd_V ml3_61 im3_settle se3_settle ini3 cd3_settle) rfl ⟨rfl, rfl⟩ hd3_settle ⟨by decide, by decide⟩ ⟨Nat.zero_le _, Nat.zero_le _⟩ 0 rfl rfl rfl [0, 1, 2, 3, 4, 5] rfl rfl rfl (Nat.le_of_ble_eq_true rfl) rfl (fun rr1 ww1 pp1 ee1 => ?_)
  obtain ⟨q, e⟩ := pp1
  rw [eN] at q e
  subst q
  subst e
  refine x_w (w' := (wR o a1 a2 a3 a4 a5 cI cZ fc fk fv (stR fi fk fv n3 n0 made n3) fh (nI (made + N)) dn pe so fl lf ev fe)) rfl ?_
  refine x_istore_n (lv' := [(1, .int (nI N)), (0, .ref o)]) h (pc' := 5) rfl d3_change_4 rfl (by decide) rfl ?_
  refine x_aload_n h (pc' := 6) rfl d3_change_5 1 rfl rfl ?_
  -- inUse
  refine x_vI h (pc' := 9) rfl [] (k3_inUse l D cI cZ cS o a1 a2 a3 a4 a5 fc fk fv (stR fi fk fv n3 n0 made n3) fh (nI (made + N)) dn pe so fl lf ev fe n0 m1 m2 t1 t2 h0 h1 h2 e0 e1 e2 u1 u2) d3_change_6 0 (gd_V ml3_65 im3_inUse se3_inUse ini3 cd3_inUse) rfl ⟨rfl, rfl⟩ hd3_inUse ⟨by decide, by decide⟩ ⟨Nat.zero_le _, Nat.zero_le _⟩ 0 rfl rfl rfl [0, 1, 2, 3, 4, 5] rfl rfl rfl (Nat.le_of_ble_eq_true rfl) rfl (fun rr6 ww6 pp6 ee6 => ?_)
  obtain ⟨q, rfl⟩ := pp6
  rw [eU] at q
  subst q
  refine x_w (w' := (wR o a1 a2 a3 a4 a5 cI cZ fc fk fv (stR fi fk fv n3 n0 made n3) fh (nI (made + N)) dn pe so fl lf ev fe)) rfl ?_
  refine x_iload_n h (pc' := 10) rfl d3_change_9 0 rfl rfl ?_
  refine x_iadd (z := (nI (U + N))) h (pc' := 11) rfl d3_change_10 (nI_add U N) ?_
  refine x_bipush (v := (nI 64)) h (pc' := 13) rfl d3_change_11 (by decide) ?_
  refine x_icmp_le (tg := 19) h (pc' := 16) rfl d3_change_13 (by decide) (nI_leI (by omega) (by omega)) (fun c13 => ?_) (fun c13 => ?_)
  · skip
    refine x_iconst (v := (nI 5)) h (pc' := 20) rfl d3_change_19 (by decide) ?_
    refine x_iload_n h (pc' := 21) rfl d3_change_20 0 rfl rfl ?_
    refine x_imul (z := (nI (5 * N))) h (pc' := 22) rfl d3_change_21 (pk_mul 5 N) ?_
    refine x_iconst (v := (nI 4)) h (pc' := 23) rfl d3_change_22 (by decide) ?_
    refine x_iadd (z := (nI ((5 * N) + 4))) h (pc' := 24) rfl d3_change_23 (nI_add (5 * N) 4) ?_
    refine x_istore_n (lv' := [(2, .int (nI ((5 * N) + 4))), (1, .int (nI N)), (0, .ref o)]) h (pc' := 25) rfl d3_change_24 rfl (by decide) rfl ?_
    refine x_aload_n h (pc' := 26) rfl d3_change_25 2 rfl rfl ?_
    refine x_get h (pc' := 29) rfl (fun c q => List.mem_cons_of_mem _ (in3 c q)) 0 10 rfl rfl (by decide) (List.mem_cons_of_mem _ lk3_26) rfl rfl d3_change_26 ?_
    refine x_if_lt (tg := 40) h (pc' := 32) rfl d3_change_29 (by decide) Iff.rfl (fun c29 => ?_) (fun c29 => ?_)
    · skip
      refine x_aload_n h (pc' := 41) rfl d3_change_40 2 rfl rfl ?_
      refine x_aload_n h (pc' := 42) rfl d3_change_41 2 rfl rfl ?_
      refine x_get h (pc' := 45) rfl (fun c q => List.mem_cons_of_mem _ (in3 c q)) 0 10 rfl rfl (by decide) (List.mem_cons_of_mem _ lk3_26) rfl rfl d3_change_42 ?_
      refine x_if_ge (tg := 52) h (pc' := 48) rfl d3_change_45 (by decide) Iff.rfl (fun c45 => ?_) (fun c45 => ?_)
      · skip
        refine x_aload_n h (pc' := 53) rfl d3_change_52 2 rfl rfl ?_
        refine x_get h (pc' := 56) rfl (fun c q => List.mem_cons_of_mem _ (in3 c q)) 0 10 rfl rfl (by decide) (List.mem_cons_of_mem _ lk3_26) rfl rfl d3_change_53 ?_
        refine x_iload_n h (pc' := 57) rfl d3_change_56 0 rfl rfl ?_
        refine x_isub (z := (lf - (nI ((5 * N) + 4)))) h (pc' := 58) rfl d3_change_57 rfl ?_
        refine x_top (y := (if lf < 0 then -1 else lf - nI (5 * N + 4))) (if_neg (Int32.not_lt.mpr c45)).symm ?_
        refine x_put (w' := (wR o a1 a2 a3 a4 a5 cI cZ fc fk fv (stR fi fk fv n3 n0 made n3) fh (nI (made + N)) dn pe so fl (if lf < 0 then -1 else lf - nI (5 * N + 4)) ev fe)) (ty := .int) h (pc' := 61) rfl (fun c q => List.mem_cons_of_mem _ (in3 c q)) ok3 nm3 0 10 rfl rfl (by decide) (List.mem_cons_of_mem _ lk3_26) rfl rfl rfl rfl rfl (Nat.le_of_ble_eq_true rfl) rfl d3_change_58 ?_
        refine x_aload_n h (pc' := 62) rfl d3_change_61 2 rfl rfl ?_
        refine x_dup h (pc' := 63) rfl d3_change_62 rfl ?_
        refine x_get h (pc' := 66) rfl (fun c q => List.mem_cons_of_mem _ (in3 c q)) 0 11 rfl rfl (by decide) (List.mem_cons_of_mem _ lk3_68) rfl rfl d3_change_63 ?_
        refine x_iload_n h (pc' := 67) rfl d3_change_66 0 rfl rfl ?_
        refine x_iadd (z := (ev + (nI ((5 * N) + 4)))) h (pc' := 68) rfl d3_change_67 rfl ?_
        refine x_put (w' := (wR o a1 a2 a3 a4 a5 cI cZ fc fk fv (stR fi fk fv n3 n0 made n3) fh (nI (made + N)) dn pe so fl (if lf < 0 then -1 else lf - nI (5 * N + 4)) (ev + (nI ((5 * N) + 4))) fe)) (ty := .int) h (pc' := 71) rfl (fun c q => List.mem_cons_of_mem _ (in3 c q)) ok3 nm3 0 11 rfl rfl (by decide) (List.mem_cons_of_mem _ lk3_68) rfl rfl rfl rfl rfl (Nat.le_of_ble_eq_true rfl) rfl d3_change_68 ?_
        refine x_aload_n h (pc' := 72) rfl d3_change_71 2 rfl rfl ?_
        refine x_dup h (pc' := 73) rfl d3_change_72 rfl ?_
        refine x_get h (pc' := 76) rfl (fun c q => List.mem_cons_of_mem _ (in3 c q)) 0 12 rfl rfl (by decide) (List.mem_cons_of_mem _ lk3_71) rfl rfl d3_change_73 ?_
        refine x_iconst (v := (nI 2)) h (pc' := 77) rfl d3_change_76 (by decide) ?_
        refine x_iadd (z := (fe + (nI 2))) h (pc' := 78) rfl d3_change_77 rfl ?_
        refine x_put (w' := (wR o a1 a2 a3 a4 a5 cI cZ fc fk fv (stR fi fk fv n3 n0 made n3) fh (nI (made + N)) dn pe so fl (if lf < 0 then -1 else lf - nI (5 * N + 4)) (ev + (nI ((5 * N) + 4))) (fe + (nI 2)))) (ty := .int) h (pc' := 81) rfl (fun c q => List.mem_cons_of_mem _ (in3 c q)) ok3 nm3 0 12 rfl rfl (by decide) (List.mem_cons_of_mem _ lk3_71) rfl rfl rfl rfl rfl (Nat.le_of_ble_eq_true rfl) rfl d3_change_78 ?_
        refine x_aload_n h (pc' := 82) rfl d3_change_81 2 rfl rfl ?_
        refine x_iconst (v := (nI 3)) h (pc' := 83) rfl d3_change_82 (by decide) ?_
        refine x_iconst (v := (nI 0)) h (pc' := 84) rfl d3_change_83 (by decide) ?_
        -- copy
        refine x_vV h (pc' := 87) rfl [.int (nI 3), .int (nI 0)] (k3_copy l D cI cZ cS o a1 a2 a3 a4 a5 fc fk fv (stR fi fk fv n3 n0 made n3) fh (nI (made + N)) dn pe so fl (if lf < 0 then -1 else lf - nI (5 * N + 4)) (ev + (nI ((5 * N) + 4))) (fe + (nI 2)) 3 n3 (by omega) h3 e3 0 (by omega) (by omega)) d3_change_84 2 (gd_V ml3_74 im3_copy se3_copy ini3 cd3_copy) rfl ⟨rfl, rfl⟩ hd3_copy ⟨by decide, by decide⟩ ⟨Nat.zero_le _, Nat.zero_le _⟩ 0 rfl rfl rfl [0, 1, 2, 3, 4, 5] rfl rfl rfl (Nat.le_of_ble_eq_true rfl) rfl (fun ww84 pp84 ee84 => ?_)
        subst pp84
        refine x_w (w' := (wR o a1 a2 a3 a4 a5 cI cZ (upd fc 0 (nI n3)) (va_cpy fk fk (31 * 3) (31 * 0) n3) (va_cpy fv fv (31 * 3) (31 * 0) n3) (va_cpy (stR fi fk fv n3 n0 made n3) (stR fi fk fv n3 n0 made n3) (31 * 3) (31 * 0) n3) fh (nI (made + N)) dn pe so fl (if lf < 0 then -1 else lf - nI (5 * N + 4)) (ev + (nI ((5 * N) + 4))) (fe + (nI 2)))) rfl ?_
        refine x_iload_n h (pc' := 88) rfl d3_change_87 1 rfl rfl ?_
        exact hret _ _ _ _ d3_change_88 rfl (Or.inr (Or.inl ⟨by omega, by first | exact Or.inl c29 | exact Or.inr (Int32.not_lt.mp c37), rfl, rfl⟩))
      · skip
        refine x_iconst (v := (-1)) h (pc' := 49) rfl d3_change_48 (by decide) ?_
        refine x_goto (pc' := 58) h d3_change_49 (by decide) ?_
        refine x_top (y := (if lf < 0 then -1 else lf - nI (5 * N + 4))) (if_pos (Int32.not_le.mp c45)).symm ?_
        refine x_put (w' := (wR o a1 a2 a3 a4 a5 cI cZ fc fk fv (stR fi fk fv n3 n0 made n3) fh (nI (made + N)) dn pe so fl (if lf < 0 then -1 else lf - nI (5 * N + 4)) ev fe)) (ty := .int) h (pc' := 61) rfl (fun c q => List.mem_cons_of_mem _ (in3 c q)) ok3 nm3 0 10 rfl rfl (by decide) (List.mem_cons_of_mem _ lk3_26) rfl rfl rfl rfl rfl (Nat.le_of_ble_eq_true rfl) rfl d3_change_58 ?_
        refine x_aload_n h (pc' := 62) rfl d3_change_61 2 rfl rfl ?_
        refine x_dup h (pc' := 63) rfl d3_change_62 rfl ?_
        refine x_get h (pc' := 66) rfl (fun c q => List.mem_cons_of_mem _ (in3 c q)) 0 11 rfl rfl (by decide) (List.mem_cons_of_mem _ lk3_68) rfl rfl d3_change_63 ?_
        refine x_iload_n h (pc' := 67) rfl d3_change_66 0 rfl rfl ?_
        refine x_iadd (z := (ev + (nI ((5 * N) + 4)))) h (pc' := 68) rfl d3_change_67 rfl ?_
        refine x_put (w' := (wR o a1 a2 a3 a4 a5 cI cZ fc fk fv (stR fi fk fv n3 n0 made n3) fh (nI (made + N)) dn pe so fl (if lf < 0 then -1 else lf - nI (5 * N + 4)) (ev + (nI ((5 * N) + 4))) fe)) (ty := .int) h (pc' := 71) rfl (fun c q => List.mem_cons_of_mem _ (in3 c q)) ok3 nm3 0 11 rfl rfl (by decide) (List.mem_cons_of_mem _ lk3_68) rfl rfl rfl rfl rfl (Nat.le_of_ble_eq_true rfl) rfl d3_change_68 ?_
        refine x_aload_n h (pc' := 72) rfl d3_change_71 2 rfl rfl ?_
        refine x_dup h (pc' := 73) rfl d3_change_72 rfl ?_
        refine x_get h (pc' := 76) rfl (fun c q => List.mem_cons_of_mem _ (in3 c q)) 0 12 rfl rfl (by decide) (List.mem_cons_of_mem _ lk3_71) rfl rfl d3_change_73 ?_
        refine x_iconst (v := (nI 2)) h (pc' := 77) rfl d3_change_76 (by decide) ?_
        refine x_iadd (z := (fe + (nI 2))) h (pc' := 78) rfl d3_change_77 rfl ?_
        refine x_put (w' := (wR o a1 a2 a3 a4 a5 cI cZ fc fk fv (stR fi fk fv n3 n0 made n3) fh (nI (made + N)) dn pe so fl (if lf < 0 then -1 else lf - nI (5 * N + 4)) (ev + (nI ((5 * N) + 4))) (fe + (nI 2)))) (ty := .int) h (pc' := 81) rfl (fun c q => List.mem_cons_of_mem _ (in3 c q)) ok3 nm3 0 12 rfl rfl (by decide) (List.mem_cons_of_mem _ lk3_71) rfl rfl rfl rfl rfl (Nat.le_of_ble_eq_true rfl) rfl d3_change_78 ?_
        refine x_aload_n h (pc' := 82) rfl d3_change_81 2 rfl rfl ?_
        refine x_iconst (v := (nI 3)) h (pc' := 83) rfl d3_change_82 (by decide) ?_
        refine x_iconst (v := (nI 0)) h (pc' := 84) rfl d3_change_83 (by decide) ?_
        -- copy
        refine x_vV h (pc' := 87) rfl [.int (nI 3), .int (nI 0)] (k3_copy l D cI cZ cS o a1 a2 a3 a4 a5 fc fk fv (stR fi fk fv n3 n0 made n3) fh (nI (made + N)) dn pe so fl (if lf < 0 then -1 else lf - nI (5 * N + 4)) (ev + (nI ((5 * N) + 4))) (fe + (nI 2)) 3 n3 (by omega) h3 e3 0 (by omega) (by omega)) d3_change_84 2 (gd_V ml3_74 im3_copy se3_copy ini3 cd3_copy) rfl ⟨rfl, rfl⟩ hd3_copy ⟨by decide, by decide⟩ ⟨Nat.zero_le _, Nat.zero_le _⟩ 0 rfl rfl rfl [0, 1, 2, 3, 4, 5] rfl rfl rfl (Nat.le_of_ble_eq_true rfl) rfl (fun ww84 pp84 ee84 => ?_)
        subst pp84
        refine x_w (w' := (wR o a1 a2 a3 a4 a5 cI cZ (upd fc 0 (nI n3)) (va_cpy fk fk (31 * 3) (31 * 0) n3) (va_cpy fv fv (31 * 3) (31 * 0) n3) (va_cpy (stR fi fk fv n3 n0 made n3) (stR fi fk fv n3 n0 made n3) (31 * 3) (31 * 0) n3) fh (nI (made + N)) dn pe so fl (if lf < 0 then -1 else lf - nI (5 * N + 4)) (ev + (nI ((5 * N) + 4))) (fe + (nI 2)))) rfl ?_
        refine x_iload_n h (pc' := 88) rfl d3_change_87 1 rfl rfl ?_
        exact hret _ _ _ _ d3_change_88 rfl (Or.inr (Or.inl ⟨by omega, by first | exact Or.inl c29 | exact Or.inr (Int32.not_lt.mp c37), rfl, rfl⟩))
    · skip
      refine x_aload_n h (pc' := 33) rfl d3_change_32 2 rfl rfl ?_
      refine x_get h (pc' := 36) rfl (fun c q => List.mem_cons_of_mem _ (in3 c q)) 0 10 rfl rfl (by decide) (List.mem_cons_of_mem _ lk3_26) rfl rfl d3_change_33 ?_
      refine x_iload_n h (pc' := 37) rfl d3_change_36 0 rfl rfl ?_
      refine x_icmp_lt (tg := 89) h (pc' := 40) rfl d3_change_37 (by decide) Iff.rfl (fun c37 => ?_) (fun c37 => ?_)
      · skip
        refine x_aload_n h (pc' := 90) rfl d3_change_89 2 rfl rfl ?_
        refine x_dup h (pc' := 91) rfl d3_change_90 rfl ?_
        refine x_get h (pc' := 94) rfl (fun c q => List.mem_cons_of_mem _ (in3 c q)) 0 11 rfl rfl (by decide) (List.mem_cons_of_mem _ lk3_68) rfl rfl d3_change_91 ?_
        refine x_aload_n h (pc' := 95) rfl d3_change_94 2 rfl rfl ?_
        refine x_get h (pc' := 98) rfl (fun c q => List.mem_cons_of_mem _ (in3 c q)) 0 10 rfl rfl (by decide) (List.mem_cons_of_mem _ lk3_26) rfl rfl d3_change_95 ?_
        refine x_iadd (z := (ev + lf)) h (pc' := 99) rfl d3_change_98 rfl ?_
        refine x_put (w' := (wR o a1 a2 a3 a4 a5 cI cZ fc fk fv (stR fi fk fv n3 n0 made n3) fh (nI (made + N)) dn pe so fl lf (ev + lf) fe)) (ty := .int) h (pc' := 102) rfl (fun c q => List.mem_cons_of_mem _ (in3 c q)) ok3 nm3 0 11 rfl rfl (by decide) (List.mem_cons_of_mem _ lk3_68) rfl rfl rfl rfl rfl (Nat.le_of_ble_eq_true rfl) rfl d3_change_99 ?_
        refine x_aload_n h (pc' := 103) rfl d3_change_102 2 rfl rfl ?_
        refine x_dup h (pc' := 104) rfl d3_change_103 rfl ?_
        refine x_get h (pc' := 107) rfl (fun c q => List.mem_cons_of_mem _ (in3 c q)) 0 12 rfl rfl (by decide) (List.mem_cons_of_mem _ lk3_71) rfl rfl d3_change_104 ?_
        refine x_aload_n h (pc' := 108) rfl d3_change_107 2 rfl rfl ?_
        refine x_get h (pc' := 111) rfl (fun c q => List.mem_cons_of_mem _ (in3 c q)) 0 10 rfl rfl (by decide) (List.mem_cons_of_mem _ lk3_26) rfl rfl d3_change_108 ?_
        refine x_iconst (v := (nI 5)) h (pc' := 112) rfl d3_change_111 (by decide) ?_
        refine x_iload_n h (pc' := 113) rfl d3_change_112 1 rfl rfl ?_
        refine x_imul (z := (nI (5 * N))) h (pc' := 114) rfl d3_change_113 (pk_mul 5 N) ?_
        refine x_icmp_le (tg := 121) h (pc' := 117) rfl d3_change_114 (by decide) Iff.rfl (fun c114 => ?_) (fun c114 => ?_)
        · skip
          refine x_iconst (v := (nI 0)) h (pc' := 122) rfl d3_change_121 (by decide) ?_
          refine x_top (y := (bi (decide (nI (5 * N) < lf)))) (bi0 (decide_eq_false (Int32.not_lt.mpr c114))) ?_
          refine x_iadd (z := (fe + (bi (decide (nI (5 * N) < lf))))) h (pc' := 123) rfl d3_change_122 rfl ?_
          refine x_put (w' := (wR o a1 a2 a3 a4 a5 cI cZ fc fk fv (stR fi fk fv n3 n0 made n3) fh (nI (made + N)) dn pe so fl lf (ev + lf) (fe + (bi (decide (nI (5 * N) < lf)))))) (ty := .int) h (pc' := 126) rfl (fun c q => List.mem_cons_of_mem _ (in3 c q)) ok3 nm3 0 12 rfl rfl (by decide) (List.mem_cons_of_mem _ lk3_71) rfl rfl rfl rfl rfl (Nat.le_of_ble_eq_true rfl) rfl d3_change_123 ?_
          refine x_aload_n h (pc' := 127) rfl d3_change_126 2 rfl rfl ?_
          refine x_aload_n h (pc' := 128) rfl d3_change_127 2 rfl rfl ?_
          refine x_get h (pc' := 131) rfl (fun c q => List.mem_cons_of_mem _ (in3 c q)) 0 10 rfl rfl (by decide) (List.mem_cons_of_mem _ lk3_26) rfl rfl d3_change_128 ?_
          refine x_iconst (v := (nI 5)) h (pc' := 132) rfl d3_change_131 (by decide) ?_
          refine x_iload_n h (pc' := 133) rfl d3_change_132 1 rfl rfl ?_
          refine x_imul (z := (nI (5 * N))) h (pc' := 134) rfl d3_change_133 (pk_mul 5 N) ?_
          refine x_iconst (v := (nI 2)) h (pc' := 135) rfl d3_change_134 (by decide) ?_
          refine x_iadd (z := (nI ((5 * N) + 2))) h (pc' := 136) rfl d3_change_135 (nI_add (5 * N) 2) ?_
          refine x_icmp_lt (tg := 143) h (pc' := 139) rfl d3_change_136 (by decide) Iff.rfl (fun c136 => ?_) (fun c136 => ?_)
          · skip
            refine x_iconst (v := (nI 0)) h (pc' := 144) rfl d3_change_143 (by decide) ?_
            refine x_top (y := (bi (decide (nI (5 * N + 2) ≤ lf)))) (bi0 (decide_eq_false (Int32.not_le.mpr c136))) ?_
            refine x_put (w' := (wR o a1 a2 a3 a4 a5 cI cZ fc fk fv (stR fi fk fv n3 n0 made n3) fh (nI (made + N)) dn pe (bi (decide (nI (5 * N + 2) ≤ lf))) fl lf (ev + lf) (fe + (bi (decide (nI (5 * N) < lf)))))) (ty := .boolean) h (pc' := 147) rfl (fun c q => List.mem_cons_of_mem _ (in3 c q)) ok3 nm3 0 8 rfl rfl (by decide) (List.mem_cons_of_mem _ lk3_78) rfl rfl rfl (bi_nar _) (bi_fits _) (Nat.le_of_ble_eq_true rfl) rfl d3_change_144 ?_
            refine x_aload_n h (pc' := 148) rfl d3_change_147 2 rfl rfl ?_
            refine x_aload_n h (pc' := 149) rfl d3_change_148 2 rfl rfl ?_
            refine x_get h (pc' := 152) rfl (fun c q => List.mem_cons_of_mem _ (in3 c q)) 0 10 rfl rfl (by decide) (List.mem_cons_of_mem _ lk3_26) rfl rfl d3_change_149 ?_
            refine x_iconst (v := (nI 5)) h (pc' := 153) rfl d3_change_152 (by decide) ?_
            refine x_iload_n h (pc' := 154) rfl d3_change_153 1 rfl rfl ?_
            refine x_imul (z := (nI (5 * N))) h (pc' := 155) rfl d3_change_154 (pk_mul 5 N) ?_
            refine x_iconst (v := (nI 3)) h (pc' := 156) rfl d3_change_155 (by decide) ?_
            refine x_iadd (z := (nI ((5 * N) + 3))) h (pc' := 157) rfl d3_change_156 (nI_add (5 * N) 3) ?_
            refine x_icmp_lt (tg := 164) h (pc' := 160) rfl d3_change_157 (by decide) Iff.rfl (fun c157 => ?_) (fun c157 => ?_)
            · skip
              refine x_iconst (v := (nI 0)) h (pc' := 165) rfl d3_change_164 (by decide) ?_
              refine x_top (y := (bi (decide (nI (5 * N + 3) ≤ lf)))) (bi0 (decide_eq_false (Int32.not_le.mpr c157))) ?_
              refine x_put (w' := (wR o a1 a2 a3 a4 a5 cI cZ fc fk fv (stR fi fk fv n3 n0 made n3) fh (nI (made + N)) dn pe (bi (decide (nI (5 * N + 2) ≤ lf))) (bi (decide (nI (5 * N + 3) ≤ lf))) lf (ev + lf) (fe + (bi (decide (nI (5 * N) < lf)))))) (ty := .boolean) h (pc' := 168) rfl (fun c q => List.mem_cons_of_mem _ (in3 c q)) ok3 nm3 0 9 rfl rfl (by decide) (List.mem_cons_of_mem _ lk3_82) rfl rfl rfl (bi_nar _) (bi_fits _) (Nat.le_of_ble_eq_true rfl) rfl d3_change_165 ?_
              refine x_aload_n h (pc' := 169) rfl d3_change_168 2 rfl rfl ?_
              refine x_iconst (v := (nI 1)) h (pc' := 170) rfl d3_change_169 (by decide) ?_
              refine x_put (w' := (wR o a1 a2 a3 a4 a5 cI cZ fc fk fv (stR fi fk fv n3 n0 made n3) fh (nI (made + N)) dn (nI 1) (bi (decide (nI (5 * N + 2) ≤ lf))) (bi (decide (nI (5 * N + 3) ≤ lf))) lf (ev + lf) (fe + (bi (decide (nI (5 * N) < lf)))))) (ty := .boolean) h (pc' := 173) rfl (fun c q => List.mem_cons_of_mem _ (in3 c q)) ok3 nm3 0 7 rfl rfl (by decide) (List.mem_cons_of_mem _ lk3_85) rfl rfl rfl rfl rfl (Nat.le_of_ble_eq_true rfl) rfl d3_change_170 ?_
              refine x_aload_n h (pc' := 174) rfl d3_change_173 2 rfl rfl ?_
              refine x_iconst (v := (nI 1)) h (pc' := 175) rfl d3_change_174 (by decide) ?_
              refine x_put (w' := (wR o a1 a2 a3 a4 a5 cI cZ fc fk fv (stR fi fk fv n3 n0 made n3) fh (nI (made + N)) (nI 1) (nI 1) (bi (decide (nI (5 * N + 2) ≤ lf))) (bi (decide (nI (5 * N + 3) ≤ lf))) lf (ev + lf) (fe + (bi (decide (nI (5 * N) < lf)))))) (ty := .boolean) h (pc' := 178) rfl (fun c q => List.mem_cons_of_mem _ (in3 c q)) ok3 nm3 0 6 rfl rfl (by decide) (List.mem_cons_of_mem _ lk3_88) rfl rfl rfl rfl rfl (Nat.le_of_ble_eq_true rfl) rfl d3_change_175 ?_
              refine x_aload_n h (pc' := 179) rfl d3_change_178 2 rfl rfl ?_
              refine x_iconst (v := (-1)) h (pc' := 180) rfl d3_change_179 (by decide) ?_
              refine x_put (w' := (wR o a1 a2 a3 a4 a5 cI cZ fc fk fv (stR fi fk fv n3 n0 made n3) fh (nI (made + N)) (nI 1) (nI 1) (bi (decide (nI (5 * N + 2) ≤ lf))) (bi (decide (nI (5 * N + 3) ≤ lf))) (-1) (ev + lf) (fe + (bi (decide (nI (5 * N) < lf)))))) (ty := .int) h (pc' := 183) rfl (fun c q => List.mem_cons_of_mem _ (in3 c q)) ok3 nm3 0 10 rfl rfl (by decide) (List.mem_cons_of_mem _ lk3_26) rfl rfl rfl rfl rfl (Nat.le_of_ble_eq_true rfl) rfl d3_change_180 ?_
              refine x_bipush (v := (-2)) h (pc' := 185) rfl d3_change_183 (by decide) ?_
              exact hret _ _ _ _ d3_change_185 rfl (Or.inr (Or.inr ⟨by omega, c29, c37, rfl, rfl⟩))
            · skip
              refine x_iconst (v := (nI 1)) h (pc' := 161) rfl d3_change_160 (by decide) ?_
              refine x_goto (pc' := 165) h d3_change_161 (by decide) ?_
              refine x_top (y := (bi (decide (nI (5 * N + 3) ≤ lf)))) (bi1 (decide_eq_true (Int32.not_lt.mp c157))) ?_
              refine x_put (w' := (wR o a1 a2 a3 a4 a5 cI cZ fc fk fv (stR fi fk fv n3 n0 made n3) fh (nI (made + N)) dn pe (bi (decide (nI (5 * N + 2) ≤ lf))) (bi (decide (nI (5 * N + 3) ≤ lf))) lf (ev + lf) (fe + (bi (decide (nI (5 * N) < lf)))))) (ty := .boolean) h (pc' := 168) rfl (fun c q => List.mem_cons_of_mem _ (in3 c q)) ok3 nm3 0 9 rfl rfl (by decide) (List.mem_cons_of_mem _ lk3_82) rfl rfl rfl (bi_nar _) (bi_fits _) (Nat.le_of_ble_eq_true rfl) rfl d3_change_165 ?_
              refine x_aload_n h (pc' := 169) rfl d3_change_168 2 rfl rfl ?_
              refine x_iconst (v := (nI 1)) h (pc' := 170) rfl d3_change_169 (by decide) ?_
              refine x_put (w' := (wR o a1 a2 a3 a4 a5 cI cZ fc fk fv (stR fi fk fv n3 n0 made n3) fh (nI (made + N)) dn (nI 1) (bi (decide (nI (5 * N + 2) ≤ lf))) (bi (decide (nI (5 * N + 3) ≤ lf))) lf (ev + lf) (fe + (bi (decide (nI (5 * N) < lf)))))) (ty := .boolean) h (pc' := 173) rfl (fun c q => List.mem_cons_of_mem _ (in3 c q)) ok3 nm3 0 7 rfl rfl (by decide) (List.mem_cons_of_mem _ lk3_85) rfl rfl rfl rfl rfl (Nat.le_of_ble_eq_true rfl) rfl d3_change_170 ?_
              refine x_aload_n h (pc' := 174) rfl d3_change_173 2 rfl rfl ?_
              refine x_iconst (v := (nI 1)) h (pc' := 175) rfl d3_change_174 (by decide) ?_
              refine x_put (w' := (wR o a1 a2 a3 a4 a5 cI cZ fc fk fv (stR fi fk fv n3 n0 made n3) fh (nI (made + N)) (nI 1) (nI 1) (bi (decide (nI (5 * N + 2) ≤ lf))) (bi (decide (nI (5 * N + 3) ≤ lf))) lf (ev + lf) (fe + (bi (decide (nI (5 * N) < lf)))))) (ty := .boolean) h (pc' := 178) rfl (fun c q => List.mem_cons_of_mem _ (in3 c q)) ok3 nm3 0 6 rfl rfl (by decide) (List.mem_cons_of_mem _ lk3_88) rfl rfl rfl rfl rfl (Nat.le_of_ble_eq_true rfl) rfl d3_change_175 ?_
              refine x_aload_n h (pc' := 179) rfl d3_change_178 2 rfl rfl ?_
              refine x_iconst (v := (-1)) h (pc' := 180) rfl d3_change_179 (by decide) ?_
              refine x_put (w' := (wR o a1 a2 a3 a4 a5 cI cZ fc fk fv (stR fi fk fv n3 n0 made n3) fh (nI (made + N)) (nI 1) (nI 1) (bi (decide (nI (5 * N + 2) ≤ lf))) (bi (decide (nI (5 * N + 3) ≤ lf))) (-1) (ev + lf) (fe + (bi (decide (nI (5 * N) < lf)))))) (ty := .int) h (pc' := 183) rfl (fun c q => List.mem_cons_of_mem _ (in3 c q)) ok3 nm3 0 10 rfl rfl (by decide) (List.mem_cons_of_mem _ lk3_26) rfl rfl rfl rfl rfl (Nat.le_of_ble_eq_true rfl) rfl d3_change_180 ?_
              refine x_bipush (v := (-2)) h (pc' := 185) rfl d3_change_183 (by decide) ?_
              exact hret _ _ _ _ d3_change_185 rfl (Or.inr (Or.inr ⟨by omega, c29, c37, rfl, rfl⟩))
          · skip
            refine x_iconst (v := (nI 1)) h (pc' := 140) rfl d3_change_139 (by decide) ?_
            refine x_goto (pc' := 144) h d3_change_140 (by decide) ?_
            refine x_top (y := (bi (decide (nI (5 * N + 2) ≤ lf)))) (bi1 (decide_eq_true (Int32.not_lt.mp c136))) ?_
            refine x_put (w' := (wR o a1 a2 a3 a4 a5 cI cZ fc fk fv (stR fi fk fv n3 n0 made n3) fh (nI (made + N)) dn pe (bi (decide (nI (5 * N + 2) ≤ lf))) fl lf (ev + lf) (fe + (bi (decide (nI (5 * N) < lf)))))) (ty := .boolean) h (pc' := 147) rfl (fun c q => List.mem_cons_of_mem _ (in3 c q)) ok3 nm3 0 8 rfl rfl (by decide) (List.mem_cons_of_mem _ lk3_78) rfl rfl rfl (bi_nar _) (bi_fits _) (Nat.le_of_ble_eq_true rfl) rfl d3_change_144 ?_
            refine x_aload_n h (pc' := 148) rfl d3_change_147 2 rfl rfl ?_
            refine x_aload_n h (pc' := 149) rfl d3_change_148 2 rfl rfl ?_
            refine x_get h (pc' := 152) rfl (fun c q => List.mem_cons_of_mem _ (in3 c q)) 0 10 rfl rfl (by decide) (List.mem_cons_of_mem _ lk3_26) rfl rfl d3_change_149 ?_
            refine x_iconst (v := (nI 5)) h (pc' := 153) rfl d3_change_152 (by decide) ?_
            refine x_iload_n h (pc' := 154) rfl d3_change_153 1 rfl rfl ?_
            refine x_imul (z := (nI (5 * N))) h (pc' := 155) rfl d3_change_154 (pk_mul 5 N) ?_
            refine x_iconst (v := (nI 3)) h (pc' := 156) rfl d3_change_155 (by decide) ?_
            refine x_iadd (z := (nI ((5 * N) + 3))) h (pc' := 157) rfl d3_change_156 (nI_add (5 * N) 3) ?_
            refine x_icmp_lt (tg := 164) h (pc' := 160) rfl d3_change_157 (by decide) Iff.rfl (fun c157 => ?_) (fun c157 => ?_)
            · skip
              refine x_iconst (v := (nI 0)) h (pc' := 165) rfl d3_change_164 (by decide) ?_
              refine x_top (y := (bi (decide (nI (5 * N + 3) ≤ lf)))) (bi0 (decide_eq_false (Int32.not_le.mpr c157))) ?_
              refine x_put (w' := (wR o a1 a2 a3 a4 a5 cI cZ fc fk fv (stR fi fk fv n3 n0 made n3) fh (nI (made + N)) dn pe (bi (decide (nI (5 * N + 2) ≤ lf))) (bi (decide (nI (5 * N + 3) ≤ lf))) lf (ev + lf) (fe + (bi (decide (nI (5 * N) < lf)))))) (ty := .boolean) h (pc' := 168) rfl (fun c q => List.mem_cons_of_mem _ (in3 c q)) ok3 nm3 0 9 rfl rfl (by decide) (List.mem_cons_of_mem _ lk3_82) rfl rfl rfl (bi_nar _) (bi_fits _) (Nat.le_of_ble_eq_true rfl) rfl d3_change_165 ?_
              refine x_aload_n h (pc' := 169) rfl d3_change_168 2 rfl rfl ?_
              refine x_iconst (v := (nI 1)) h (pc' := 170) rfl d3_change_169 (by decide) ?_
              refine x_put (w' := (wR o a1 a2 a3 a4 a5 cI cZ fc fk fv (stR fi fk fv n3 n0 made n3) fh (nI (made + N)) dn (nI 1) (bi (decide (nI (5 * N + 2) ≤ lf))) (bi (decide (nI (5 * N + 3) ≤ lf))) lf (ev + lf) (fe + (bi (decide (nI (5 * N) < lf)))))) (ty := .boolean) h (pc' := 173) rfl (fun c q => List.mem_cons_of_mem _ (in3 c q)) ok3 nm3 0 7 rfl rfl (by decide) (List.mem_cons_of_mem _ lk3_85) rfl rfl rfl rfl rfl (Nat.le_of_ble_eq_true rfl) rfl d3_change_170 ?_
              refine x_aload_n h (pc' := 174) rfl d3_change_173 2 rfl rfl ?_
              refine x_iconst (v := (nI 1)) h (pc' := 175) rfl d3_change_174 (by decide) ?_
              refine x_put (w' := (wR o a1 a2 a3 a4 a5 cI cZ fc fk fv (stR fi fk fv n3 n0 made n3) fh (nI (made + N)) (nI 1) (nI 1) (bi (decide (nI (5 * N + 2) ≤ lf))) (bi (decide (nI (5 * N + 3) ≤ lf))) lf (ev + lf) (fe + (bi (decide (nI (5 * N) < lf)))))) (ty := .boolean) h (pc' := 178) rfl (fun c q => List.mem_cons_of_mem _ (in3 c q)) ok3 nm3 0 6 rfl rfl (by decide) (List.mem_cons_of_mem _ lk3_88) rfl rfl rfl rfl rfl (Nat.le_of_ble_eq_true rfl) rfl d3_change_175 ?_
              refine x_aload_n h (pc' := 179) rfl d3_change_178 2 rfl rfl ?_
              refine x_iconst (v := (-1)) h (pc' := 180) rfl d3_change_179 (by decide) ?_
              refine x_put (w' := (wR o a1 a2 a3 a4 a5 cI cZ fc fk fv (stR fi fk fv n3 n0 made n3) fh (nI (made + N)) (nI 1) (nI 1) (bi (decide (nI (5 * N + 2) ≤ lf))) (bi (decide (nI (5 * N + 3) ≤ lf))) (-1) (ev + lf) (fe + (bi (decide (nI (5 * N) < lf)))))) (ty := .int) h (pc' := 183) rfl (fun c q => List.mem_cons_of_mem _ (in3 c q)) ok3 nm3 0 10 rfl rfl (by decide) (List.mem_cons_of_mem _ lk3_26) rfl rfl rfl rfl rfl (Nat.le_of_ble_eq_true rfl) rfl d3_change_180 ?_
              refine x_bipush (v := (-2)) h (pc' := 185) rfl d3_change_183 (by decide) ?_
              exact hret _ _ _ _ d3_change_185 rfl (Or.inr (Or.inr ⟨by omega, c29, c37, rfl, rfl⟩))
            · skip
              refine x_iconst (v := (nI 1)) h (pc' := 161) rfl d3_change_160 (by decide) ?_
              refine x_goto (pc' := 165) h d3_change_161 (by decide) ?_
              refine x_top (y := (bi (decide (nI (5 * N + 3) ≤ lf)))) (bi1 (decide_eq_true (Int32.not_lt.mp c157))) ?_
              refine x_put (w' := (wR o a1 a2 a3 a4 a5 cI cZ fc fk fv (stR fi fk fv n3 n0 made n3) fh (nI (made + N)) dn pe (bi (decide (nI (5 * N + 2) ≤ lf))) (bi (decide (nI (5 * N + 3) ≤ lf))) lf (ev + lf) (fe + (bi (decide (nI (5 * N) < lf)))))) (ty := .boolean) h (pc' := 168) rfl (fun c q => List.mem_cons_of_mem _ (in3 c q)) ok3 nm3 0 9 rfl rfl (by decide) (List.mem_cons_of_mem _ lk3_82) rfl rfl rfl (bi_nar _) (bi_fits _) (Nat.le_of_ble_eq_true rfl) rfl d3_change_165 ?_
              refine x_aload_n h (pc' := 169) rfl d3_change_168 2 rfl rfl ?_
              refine x_iconst (v := (nI 1)) h (pc' := 170) rfl d3_change_169 (by decide) ?_
              refine x_put (w' := (wR o a1 a2 a3 a4 a5 cI cZ fc fk fv (stR fi fk fv n3 n0 made n3) fh (nI (made + N)) dn (nI 1) (bi (decide (nI (5 * N + 2) ≤ lf))) (bi (decide (nI (5 * N + 3) ≤ lf))) lf (ev + lf) (fe + (bi (decide (nI (5 * N) < lf)))))) (ty := .boolean) h (pc' := 173) rfl (fun c q => List.mem_cons_of_mem _ (in3 c q)) ok3 nm3 0 7 rfl rfl (by decide) (List.mem_cons_of_mem _ lk3_85) rfl rfl rfl rfl rfl (Nat.le_of_ble_eq_true rfl) rfl d3_change_170 ?_
              refine x_aload_n h (pc' := 174) rfl d3_change_173 2 rfl rfl ?_
              refine x_iconst (v := (nI 1)) h (pc' := 175) rfl d3_change_174 (by decide) ?_
              refine x_put (w' := (wR o a1 a2 a3 a4 a5 cI cZ fc fk fv (stR fi fk fv n3 n0 made n3) fh (nI (made + N)) (nI 1) (nI 1) (bi (decide (nI (5 * N + 2) ≤ lf))) (bi (decide (nI (5 * N + 3) ≤ lf))) lf (ev + lf) (fe + (bi (decide (nI (5 * N) < lf)))))) (ty := .boolean) h (pc' := 178) rfl (fun c q => List.mem_cons_of_mem _ (in3 c q)) ok3 nm3 0 6 rfl rfl (by decide) (List.mem_cons_of_mem _ lk3_88) rfl rfl rfl rfl rfl (Nat.le_of_ble_eq_true rfl) rfl d3_change_175 ?_
              refine x_aload_n h (pc' := 179) rfl d3_change_178 2 rfl rfl ?_
              refine x_iconst (v := (-1)) h (pc' := 180) rfl d3_change_179 (by decide) ?_
              refine x_put (w' := (wR o a1 a2 a3 a4 a5 cI cZ fc fk fv (stR fi fk fv n3 n0 made n3) fh (nI (made + N)) (nI 1) (nI 1) (bi (decide (nI (5 * N + 2) ≤ lf))) (bi (decide (nI (5 * N + 3) ≤ lf))) (-1) (ev + lf) (fe + (bi (decide (nI (5 * N) < lf)))))) (ty := .int) h (pc' := 183) rfl (fun c q => List.mem_cons_of_mem _ (in3 c q)) ok3 nm3 0 10 rfl rfl (by decide) (List.mem_cons_of_mem _ lk3_26) rfl rfl rfl rfl rfl (Nat.le_of_ble_eq_true rfl) rfl d3_change_180 ?_
              refine x_bipush (v := (-2)) h (pc' := 185) rfl d3_change_183 (by decide) ?_
              exact hret _ _ _ _ d3_change_185 rfl (Or.inr (Or.inr ⟨by omega, c29, c37, rfl, rfl⟩))
        · skip
          refine x_iconst (v := (nI 1)) h (pc' := 118) rfl d3_change_117 (by decide) ?_
          refine x_goto (pc' := 122) h d3_change_118 (by decide) ?_
          refine x_top (y := (bi (decide (nI (5 * N) < lf)))) (bi1 (decide_eq_true (Int32.not_le.mp c114))) ?_
          refine x_iadd (z := (fe + (bi (decide (nI (5 * N) < lf))))) h (pc' := 123) rfl d3_change_122 rfl ?_
          refine x_put (w' := (wR o a1 a2 a3 a4 a5 cI cZ fc fk fv (stR fi fk fv n3 n0 made n3) fh (nI (made + N)) dn pe so fl lf (ev + lf) (fe + (bi (decide (nI (5 * N) < lf)))))) (ty := .int) h (pc' := 126) rfl (fun c q => List.mem_cons_of_mem _ (in3 c q)) ok3 nm3 0 12 rfl rfl (by decide) (List.mem_cons_of_mem _ lk3_71) rfl rfl rfl rfl rfl (Nat.le_of_ble_eq_true rfl) rfl d3_change_123 ?_
          refine x_aload_n h (pc' := 127) rfl d3_change_126 2 rfl rfl ?_
          refine x_aload_n h (pc' := 128) rfl d3_change_127 2 rfl rfl ?_
          refine x_get h (pc' := 131) rfl (fun c q => List.mem_cons_of_mem _ (in3 c q)) 0 10 rfl rfl (by decide) (List.mem_cons_of_mem _ lk3_26) rfl rfl d3_change_128 ?_
          refine x_iconst (v := (nI 5)) h (pc' := 132) rfl d3_change_131 (by decide) ?_
          refine x_iload_n h (pc' := 133) rfl d3_change_132 1 rfl rfl ?_
          refine x_imul (z := (nI (5 * N))) h (pc' := 134) rfl d3_change_133 (pk_mul 5 N) ?_
          refine x_iconst (v := (nI 2)) h (pc' := 135) rfl d3_change_134 (by decide) ?_
          refine x_iadd (z := (nI ((5 * N) + 2))) h (pc' := 136) rfl d3_change_135 (nI_add (5 * N) 2) ?_
          refine x_icmp_lt (tg := 143) h (pc' := 139) rfl d3_change_136 (by decide) Iff.rfl (fun c136 => ?_) (fun c136 => ?_)
          · skip
            refine x_iconst (v := (nI 0)) h (pc' := 144) rfl d3_change_143 (by decide) ?_
            refine x_top (y := (bi (decide (nI (5 * N + 2) ≤ lf)))) (bi0 (decide_eq_false (Int32.not_le.mpr c136))) ?_
            refine x_put (w' := (wR o a1 a2 a3 a4 a5 cI cZ fc fk fv (stR fi fk fv n3 n0 made n3) fh (nI (made + N)) dn pe (bi (decide (nI (5 * N + 2) ≤ lf))) fl lf (ev + lf) (fe + (bi (decide (nI (5 * N) < lf)))))) (ty := .boolean) h (pc' := 147) rfl (fun c q => List.mem_cons_of_mem _ (in3 c q)) ok3 nm3 0 8 rfl rfl (by decide) (List.mem_cons_of_mem _ lk3_78) rfl rfl rfl (bi_nar _) (bi_fits _) (Nat.le_of_ble_eq_true rfl) rfl d3_change_144 ?_
            refine x_aload_n h (pc' := 148) rfl d3_change_147 2 rfl rfl ?_
            refine x_aload_n h (pc' := 149) rfl d3_change_148 2 rfl rfl ?_
            refine x_get h (pc' := 152) rfl (fun c q => List.mem_cons_of_mem _ (in3 c q)) 0 10 rfl rfl (by decide) (List.mem_cons_of_mem _ lk3_26) rfl rfl d3_change_149 ?_
            refine x_iconst (v := (nI 5)) h (pc' := 153) rfl d3_change_152 (by decide) ?_
            refine x_iload_n h (pc' := 154) rfl d3_change_153 1 rfl rfl ?_
            refine x_imul (z := (nI (5 * N))) h (pc' := 155) rfl d3_change_154 (pk_mul 5 N) ?_
            refine x_iconst (v := (nI 3)) h (pc' := 156) rfl d3_change_155 (by decide) ?_
            refine x_iadd (z := (nI ((5 * N) + 3))) h (pc' := 157) rfl d3_change_156 (nI_add (5 * N) 3) ?_
            refine x_icmp_lt (tg := 164) h (pc' := 160) rfl d3_change_157 (by decide) Iff.rfl (fun c157 => ?_) (fun c157 => ?_)
            · skip
              refine x_iconst (v := (nI 0)) h (pc' := 165) rfl d3_change_164 (by decide) ?_
              refine x_top (y := (bi (decide (nI (5 * N + 3) ≤ lf)))) (bi0 (decide_eq_false (Int32.not_le.mpr c157))) ?_
              refine x_put (w' := (wR o a1 a2 a3 a4 a5 cI cZ fc fk fv (stR fi fk fv n3 n0 made n3) fh (nI (made + N)) dn pe (bi (decide (nI (5 * N + 2) ≤ lf))) (bi (decide (nI (5 * N + 3) ≤ lf))) lf (ev + lf) (fe + (bi (decide (nI (5 * N) < lf)))))) (ty := .boolean) h (pc' := 168) rfl (fun c q => List.mem_cons_of_mem _ (in3 c q)) ok3 nm3 0 9 rfl rfl (by decide) (List.mem_cons_of_mem _ lk3_82) rfl rfl rfl (bi_nar _) (bi_fits _) (Nat.le_of_ble_eq_true rfl) rfl d3_change_165 ?_
              refine x_aload_n h (pc' := 169) rfl d3_change_168 2 rfl rfl ?_
              refine x_iconst (v := (nI 1)) h (pc' := 170) rfl d3_change_169 (by decide) ?_
              refine x_put (w' := (wR o a1 a2 a3 a4 a5 cI cZ fc fk fv (stR fi fk fv n3 n0 made n3) fh (nI (made + N)) dn (nI 1) (bi (decide (nI (5 * N + 2) ≤ lf))) (bi (decide (nI (5 * N + 3) ≤ lf))) lf (ev + lf) (fe + (bi (decide (nI (5 * N) < lf)))))) (ty := .boolean) h (pc' := 173) rfl (fun c q => List.mem_cons_of_mem _ (in3 c q)) ok3 nm3 0 7 rfl rfl (by decide) (List.mem_cons_of_mem _ lk3_85) rfl rfl rfl rfl rfl (Nat.le_of_ble_eq_true rfl) rfl d3_change_170 ?_
              refine x_aload_n h (pc' := 174) rfl d3_change_173 2 rfl rfl ?_
              refine x_iconst (v := (nI 1)) h (pc' := 175) rfl d3_change_174 (by decide) ?_
              refine x_put (w' := (wR o a1 a2 a3 a4 a5 cI cZ fc fk fv (stR fi fk fv n3 n0 made n3) fh (nI (made + N)) (nI 1) (nI 1) (bi (decide (nI (5 * N + 2) ≤ lf))) (bi (decide (nI (5 * N + 3) ≤ lf))) lf (ev + lf) (fe + (bi (decide (nI (5 * N) < lf)))))) (ty := .boolean) h (pc' := 178) rfl (fun c q => List.mem_cons_of_mem _ (in3 c q)) ok3 nm3 0 6 rfl rfl (by decide) (List.mem_cons_of_mem _ lk3_88) rfl rfl rfl rfl rfl (Nat.le_of_ble_eq_true rfl) rfl d3_change_175 ?_
              refine x_aload_n h (pc' := 179) rfl d3_change_178 2 rfl rfl ?_
              refine x_iconst (v := (-1)) h (pc' := 180) rfl d3_change_179 (by decide) ?_
              refine x_put (w' := (wR o a1 a2 a3 a4 a5 cI cZ fc fk fv (stR fi fk fv n3 n0 made n3) fh (nI (made + N)) (nI 1) (nI 1) (bi (decide (nI (5 * N + 2) ≤ lf))) (bi (decide (nI (5 * N + 3) ≤ lf))) (-1) (ev + lf) (fe + (bi (decide (nI (5 * N) < lf)))))) (ty := .int) h (pc' := 183) rfl (fun c q => List.mem_cons_of_mem _ (in3 c q)) ok3 nm3 0 10 rfl rfl (by decide) (List.mem_cons_of_mem _ lk3_26) rfl rfl rfl rfl rfl (Nat.le_of_ble_eq_true rfl) rfl d3_change_180 ?_
              refine x_bipush (v := (-2)) h (pc' := 185) rfl d3_change_183 (by decide) ?_
              exact hret _ _ _ _ d3_change_185 rfl (Or.inr (Or.inr ⟨by omega, c29, c37, rfl, rfl⟩))
            · skip
              refine x_iconst (v := (nI 1)) h (pc' := 161) rfl d3_change_160 (by decide) ?_
              refine x_goto (pc' := 165) h d3_change_161 (by decide) ?_
              refine x_top (y := (bi (decide (nI (5 * N + 3) ≤ lf)))) (bi1 (decide_eq_true (Int32.not_lt.mp c157))) ?_
              refine x_put (w' := (wR o a1 a2 a3 a4 a5 cI cZ fc fk fv (stR fi fk fv n3 n0 made n3) fh (nI (made + N)) dn pe (bi (decide (nI (5 * N + 2) ≤ lf))) (bi (decide (nI (5 * N + 3) ≤ lf))) lf (ev + lf) (fe + (bi (decide (nI (5 * N) < lf)))))) (ty := .boolean) h (pc' := 168) rfl (fun c q => List.mem_cons_of_mem _ (in3 c q)) ok3 nm3 0 9 rfl rfl (by decide) (List.mem_cons_of_mem _ lk3_82) rfl rfl rfl (bi_nar _) (bi_fits _) (Nat.le_of_ble_eq_true rfl) rfl d3_change_165 ?_
              refine x_aload_n h (pc' := 169) rfl d3_change_168 2 rfl rfl ?_
              refine x_iconst (v := (nI 1)) h (pc' := 170) rfl d3_change_169 (by decide) ?_
              refine x_put (w' := (wR o a1 a2 a3 a4 a5 cI cZ fc fk fv (stR fi fk fv n3 n0 made n3) fh (nI (made + N)) dn (nI 1) (bi (decide (nI (5 * N + 2) ≤ lf))) (bi (decide (nI (5 * N + 3) ≤ lf))) lf (ev + lf) (fe + (bi (decide (nI (5 * N) < lf)))))) (ty := .boolean) h (pc' := 173) rfl (fun c q => List.mem_cons_of_mem _ (in3 c q)) ok3 nm3 0 7 rfl rfl (by decide) (List.mem_cons_of_mem _ lk3_85) rfl rfl rfl rfl rfl (Nat.le_of_ble_eq_true rfl) rfl d3_change_170 ?_
              refine x_aload_n h (pc' := 174) rfl d3_change_173 2 rfl rfl ?_
              refine x_iconst (v := (nI 1)) h (pc' := 175) rfl d3_change_174 (by decide) ?_
              refine x_put (w' := (wR o a1 a2 a3 a4 a5 cI cZ fc fk fv (stR fi fk fv n3 n0 made n3) fh (nI (made + N)) (nI 1) (nI 1) (bi (decide (nI (5 * N + 2) ≤ lf))) (bi (decide (nI (5 * N + 3) ≤ lf))) lf (ev + lf) (fe + (bi (decide (nI (5 * N) < lf)))))) (ty := .boolean) h (pc' := 178) rfl (fun c q => List.mem_cons_of_mem _ (in3 c q)) ok3 nm3 0 6 rfl rfl (by decide) (List.mem_cons_of_mem _ lk3_88) rfl rfl rfl rfl rfl (Nat.le_of_ble_eq_true rfl) rfl d3_change_175 ?_
              refine x_aload_n h (pc' := 179) rfl d3_change_178 2 rfl rfl ?_
              refine x_iconst (v := (-1)) h (pc' := 180) rfl d3_change_179 (by decide) ?_
              refine x_put (w' := (wR o a1 a2 a3 a4 a5 cI cZ fc fk fv (stR fi fk fv n3 n0 made n3) fh (nI (made + N)) (nI 1) (nI 1) (bi (decide (nI (5 * N + 2) ≤ lf))) (bi (decide (nI (5 * N + 3) ≤ lf))) (-1) (ev + lf) (fe + (bi (decide (nI (5 * N) < lf)))))) (ty := .int) h (pc' := 183) rfl (fun c q => List.mem_cons_of_mem _ (in3 c q)) ok3 nm3 0 10 rfl rfl (by decide) (List.mem_cons_of_mem _ lk3_26) rfl rfl rfl rfl rfl (Nat.le_of_ble_eq_true rfl) rfl d3_change_180 ?_
              refine x_bipush (v := (-2)) h (pc' := 185) rfl d3_change_183 (by decide) ?_
              exact hret _ _ _ _ d3_change_185 rfl (Or.inr (Or.inr ⟨by omega, c29, c37, rfl, rfl⟩))
          · skip
            refine x_iconst (v := (nI 1)) h (pc' := 140) rfl d3_change_139 (by decide) ?_
            refine x_goto (pc' := 144) h d3_change_140 (by decide) ?_
            refine x_top (y := (bi (decide (nI (5 * N + 2) ≤ lf)))) (bi1 (decide_eq_true (Int32.not_lt.mp c136))) ?_
            refine x_put (w' := (wR o a1 a2 a3 a4 a5 cI cZ fc fk fv (stR fi fk fv n3 n0 made n3) fh (nI (made + N)) dn pe (bi (decide (nI (5 * N + 2) ≤ lf))) fl lf (ev + lf) (fe + (bi (decide (nI (5 * N) < lf)))))) (ty := .boolean) h (pc' := 147) rfl (fun c q => List.mem_cons_of_mem _ (in3 c q)) ok3 nm3 0 8 rfl rfl (by decide) (List.mem_cons_of_mem _ lk3_78) rfl rfl rfl (bi_nar _) (bi_fits _) (Nat.le_of_ble_eq_true rfl) rfl d3_change_144 ?_
            refine x_aload_n h (pc' := 148) rfl d3_change_147 2 rfl rfl ?_
            refine x_aload_n h (pc' := 149) rfl d3_change_148 2 rfl rfl ?_
            refine x_get h (pc' := 152) rfl (fun c q => List.mem_cons_of_mem _ (in3 c q)) 0 10 rfl rfl (by decide) (List.mem_cons_of_mem _ lk3_26) rfl rfl d3_change_149 ?_
            refine x_iconst (v := (nI 5)) h (pc' := 153) rfl d3_change_152 (by decide) ?_
            refine x_iload_n h (pc' := 154) rfl d3_change_153 1 rfl rfl ?_
            refine x_imul (z := (nI (5 * N))) h (pc' := 155) rfl d3_change_154 (pk_mul 5 N) ?_
            refine x_iconst (v := (nI 3)) h (pc' := 156) rfl d3_change_155 (by decide) ?_
            refine x_iadd (z := (nI ((5 * N) + 3))) h (pc' := 157) rfl d3_change_156 (nI_add (5 * N) 3) ?_
            refine x_icmp_lt (tg := 164) h (pc' := 160) rfl d3_change_157 (by decide) Iff.rfl (fun c157 => ?_) (fun c157 => ?_)
            · skip
              refine x_iconst (v := (nI 0)) h (pc' := 165) rfl d3_change_164 (by decide) ?_
              refine x_top (y := (bi (decide (nI (5 * N + 3) ≤ lf)))) (bi0 (decide_eq_false (Int32.not_le.mpr c157))) ?_
              refine x_put (w' := (wR o a1 a2 a3 a4 a5 cI cZ fc fk fv (stR fi fk fv n3 n0 made n3) fh (nI (made + N)) dn pe (bi (decide (nI (5 * N + 2) ≤ lf))) (bi (decide (nI (5 * N + 3) ≤ lf))) lf (ev + lf) (fe + (bi (decide (nI (5 * N) < lf)))))) (ty := .boolean) h (pc' := 168) rfl (fun c q => List.mem_cons_of_mem _ (in3 c q)) ok3 nm3 0 9 rfl rfl (by decide) (List.mem_cons_of_mem _ lk3_82) rfl rfl rfl (bi_nar _) (bi_fits _) (Nat.le_of_ble_eq_true rfl) rfl d3_change_165 ?_
              refine x_aload_n h (pc' := 169) rfl d3_change_168 2 rfl rfl ?_
              refine x_iconst (v := (nI 1)) h (pc' := 170) rfl d3_change_169 (by decide) ?_
              refine x_put (w' := (wR o a1 a2 a3 a4 a5 cI cZ fc fk fv (stR fi fk fv n3 n0 made n3) fh (nI (made + N)) dn (nI 1) (bi (decide (nI (5 * N + 2) ≤ lf))) (bi (decide (nI (5 * N + 3) ≤ lf))) lf (ev + lf) (fe + (bi (decide (nI (5 * N) < lf)))))) (ty := .boolean) h (pc' := 173) rfl (fun c q => List.mem_cons_of_mem _ (in3 c q)) ok3 nm3 0 7 rfl rfl (by decide) (List.mem_cons_of_mem _ lk3_85) rfl rfl rfl rfl rfl (Nat.le_of_ble_eq_true rfl) rfl d3_change_170 ?_
              refine x_aload_n h (pc' := 174) rfl d3_change_173 2 rfl rfl ?_
              refine x_iconst (v := (nI 1)) h (pc' := 175) rfl d3_change_174 (by decide) ?_
              refine x_put (w' := (wR o a1 a2 a3 a4 a5 cI cZ fc fk fv (stR fi fk fv n3 n0 made n3) fh (nI (made + N)) (nI 1) (nI 1) (bi (decide (nI (5 * N + 2) ≤ lf))) (bi (decide (nI (5 * N + 3) ≤ lf))) lf (ev + lf) (fe + (bi (decide (nI (5 * N) < lf)))))) (ty := .boolean) h (pc' := 178) rfl (fun c q => List.mem_cons_of_mem _ (in3 c q)) ok3 nm3 0 6 rfl rfl (by decide) (List.mem_cons_of_mem _ lk3_88) rfl rfl rfl rfl rfl (Nat.le_of_ble_eq_true rfl) rfl d3_change_175 ?_
              refine x_aload_n h (pc' := 179) rfl d3_change_178 2 rfl rfl ?_
              refine x_iconst (v := (-1)) h (pc' := 180) rfl d3_change_179 (by decide) ?_
              refine x_put (w' := (wR o a1 a2 a3 a4 a5 cI cZ fc fk fv (stR fi fk fv n3 n0 made n3) fh (nI (made + N)) (nI 1) (nI 1) (bi (decide (nI (5 * N + 2) ≤ lf))) (bi (decide (nI (5 * N + 3) ≤ lf))) (-1) (ev + lf) (fe + (bi (decide (nI (5 * N) < lf)))))) (ty := .int) h (pc' := 183) rfl (fun c q => List.mem_cons_of_mem _ (in3 c q)) ok3 nm3 0 10 rfl rfl (by decide) (List.mem_cons_of_mem _ lk3_26) rfl rfl rfl rfl rfl (Nat.le_of_ble_eq_true rfl) rfl d3_change_180 ?_
              refine x_bipush (v := (-2)) h (pc' := 185) rfl d3_change_183 (by decide) ?_
              exact hret _ _ _ _ d3_change_185 rfl (Or.inr (Or.inr ⟨by omega, c29, c37, rfl, rfl⟩))
            · skip
              refine x_iconst (v := (nI 1)) h (pc' := 161) rfl d3_change_160 (by decide) ?_
              refine x_goto (pc' := 165) h d3_change_161 (by decide) ?_
              refine x_top (y := (bi (decide (nI (5 * N + 3) ≤ lf)))) (bi1 (decide_eq_true (Int32.not_lt.mp c157))) ?_
              refine x_put (w' := (wR o a1 a2 a3 a4 a5 cI cZ fc fk fv (stR fi fk fv n3 n0 made n3) fh (nI (made + N)) dn pe (bi (decide (nI (5 * N + 2) ≤ lf))) (bi (decide (nI (5 * N + 3) ≤ lf))) lf (ev + lf) (fe + (bi (decide (nI (5 * N) < lf)))))) (ty := .boolean) h (pc' := 168) rfl (fun c q => List.mem_cons_of_mem _ (in3 c q)) ok3 nm3 0 9 rfl rfl (by decide) (List.mem_cons_of_mem _ lk3_82) rfl rfl rfl (bi_nar _) (bi_fits _) (Nat.le_of_ble_eq_true rfl) rfl d3_change_165 ?_
              refine x_aload_n h (pc' := 169) rfl d3_change_168 2 rfl rfl ?_
              refine x_iconst (v := (nI 1)) h (pc' := 170) rfl d3_change_169 (by decide) ?_
              refine x_put (w' := (wR o a1 a2 a3 a4 a5 cI cZ fc fk fv (stR fi fk fv n3 n0 made n3) fh (nI (made + N)) dn (nI 1) (bi (decide (nI (5 * N + 2) ≤ lf))) (bi (decide (nI (5 * N + 3) ≤ lf))) lf (ev + lf) (fe + (bi (decide (nI (5 * N) < lf)))))) (ty := .boolean) h (pc' := 173) rfl (fun c q => List.mem_cons_of_mem _ (in3 c q)) ok3 nm3 0 7 rfl rfl (by decide) (List.mem_cons_of_mem _ lk3_85) rfl rfl rfl rfl rfl (Nat.le_of_ble_eq_true rfl) rfl d3_change_170 ?_
              refine x_aload_n h (pc' := 174) rfl d3_change_173 2 rfl rfl ?_
              refine x_iconst (v := (nI 1)) h (pc' := 175) rfl d3_change_174 (by decide) ?_
              refine x_put (w' := (wR o a1 a2 a3 a4 a5 cI cZ fc fk fv (stR fi fk fv n3 n0 made n3) fh (nI (made + N)) (nI 1) (nI 1) (bi (decide (nI (5 * N + 2) ≤ lf))) (bi (decide (nI (5 * N + 3) ≤ lf))) lf (ev + lf) (fe + (bi (decide (nI (5 * N) < lf)))))) (ty := .boolean) h (pc' := 178) rfl (fun c q => List.mem_cons_of_mem _ (in3 c q)) ok3 nm3 0 6 rfl rfl (by decide) (List.mem_cons_of_mem _ lk3_88) rfl rfl rfl rfl rfl (Nat.le_of_ble_eq_true rfl) rfl d3_change_175 ?_
              refine x_aload_n h (pc' := 179) rfl d3_change_178 2 rfl rfl ?_
              refine x_iconst (v := (-1)) h (pc' := 180) rfl d3_change_179 (by decide) ?_
              refine x_put (w' := (wR o a1 a2 a3 a4 a5 cI cZ fc fk fv (stR fi fk fv n3 n0 made n3) fh (nI (made + N)) (nI 1) (nI 1) (bi (decide (nI (5 * N + 2) ≤ lf))) (bi (decide (nI (5 * N + 3) ≤ lf))) (-1) (ev + lf) (fe + (bi (decide (nI (5 * N) < lf)))))) (ty := .int) h (pc' := 183) rfl (fun c q => List.mem_cons_of_mem _ (in3 c q)) ok3 nm3 0 10 rfl rfl (by decide) (List.mem_cons_of_mem _ lk3_26) rfl rfl rfl rfl rfl (Nat.le_of_ble_eq_true rfl) rfl d3_change_180 ?_
              refine x_bipush (v := (-2)) h (pc' := 185) rfl d3_change_183 (by decide) ?_
              exact hret _ _ _ _ d3_change_185 rfl (Or.inr (Or.inr ⟨by omega, c29, c37, rfl, rfl⟩))
      · skip
        refine x_aload_n h (pc' := 41) rfl d3_change_40 2 rfl rfl ?_
        refine x_aload_n h (pc' := 42) rfl d3_change_41 2 rfl rfl ?_
        refine x_get h (pc' := 45) rfl (fun c q => List.mem_cons_of_mem _ (in3 c q)) 0 10 rfl rfl (by decide) (List.mem_cons_of_mem _ lk3_26) rfl rfl d3_change_42 ?_
        refine x_if_ge (tg := 52) h (pc' := 48) rfl d3_change_45 (by decide) Iff.rfl (fun c45 => ?_) (fun c45 => ?_)
        · skip
          refine x_aload_n h (pc' := 53) rfl d3_change_52 2 rfl rfl ?_
          refine x_get h (pc' := 56) rfl (fun c q => List.mem_cons_of_mem _ (in3 c q)) 0 10 rfl rfl (by decide) (List.mem_cons_of_mem _ lk3_26) rfl rfl d3_change_53 ?_
          refine x_iload_n h (pc' := 57) rfl d3_change_56 0 rfl rfl ?_
          refine x_isub (z := (lf - (nI ((5 * N) + 4)))) h (pc' := 58) rfl d3_change_57 rfl ?_
          refine x_top (y := (if lf < 0 then -1 else lf - nI (5 * N + 4))) (if_neg (Int32.not_lt.mpr c45)).symm ?_
          refine x_put (w' := (wR o a1 a2 a3 a4 a5 cI cZ fc fk fv (stR fi fk fv n3 n0 made n3) fh (nI (made + N)) dn pe so fl (if lf < 0 then -1 else lf - nI (5 * N + 4)) ev fe)) (ty := .int) h (pc' := 61) rfl (fun c q => List.mem_cons_of_mem _ (in3 c q)) ok3 nm3 0 10 rfl rfl (by decide) (List.mem_cons_of_mem _ lk3_26) rfl rfl rfl rfl rfl (Nat.le_of_ble_eq_true rfl) rfl d3_change_58 ?_
          refine x_aload_n h (pc' := 62) rfl d3_change_61 2 rfl rfl ?_
          refine x_dup h (pc' := 63) rfl d3_change_62 rfl ?_
          refine x_get h (pc' := 66) rfl (fun c q => List.mem_cons_of_mem _ (in3 c q)) 0 11 rfl rfl (by decide) (List.mem_cons_of_mem _ lk3_68) rfl rfl d3_change_63 ?_
          refine x_iload_n h (pc' := 67) rfl d3_change_66 0 rfl rfl ?_
          refine x_iadd (z := (ev + (nI ((5 * N) + 4)))) h (pc' := 68) rfl d3_change_67 rfl ?_
          refine x_put (w' := (wR o a1 a2 a3 a4 a5 cI cZ fc fk fv (stR fi fk fv n3 n0 made n3) fh (nI (made + N)) dn pe so fl (if lf < 0 then -1 else lf - nI (5 * N + 4)) (ev + (nI ((5 * N) + 4))) fe)) (ty := .int) h (pc' := 71) rfl (fun c q => List.mem_cons_of_mem _ (in3 c q)) ok3 nm3 0 11 rfl rfl (by decide) (List.mem_cons_of_mem _ lk3_68) rfl rfl rfl rfl rfl (Nat.le_of_ble_eq_true rfl) rfl d3_change_68 ?_
          refine x_aload_n h (pc' := 72) rfl d3_change_71 2 rfl rfl ?_
          refine x_dup h (pc' := 73) rfl d3_change_72 rfl ?_
          refine x_get h (pc' := 76) rfl (fun c q => List.mem_cons_of_mem _ (in3 c q)) 0 12 rfl rfl (by decide) (List.mem_cons_of_mem _ lk3_71) rfl rfl d3_change_73 ?_
          refine x_iconst (v := (nI 2)) h (pc' := 77) rfl d3_change_76 (by decide) ?_
          refine x_iadd (z := (fe + (nI 2))) h (pc' := 78) rfl d3_change_77 rfl ?_
          refine x_put (w' := (wR o a1 a2 a3 a4 a5 cI cZ fc fk fv (stR fi fk fv n3 n0 made n3) fh (nI (made + N)) dn pe so fl (if lf < 0 then -1 else lf - nI (5 * N + 4)) (ev + (nI ((5 * N) + 4))) (fe + (nI 2)))) (ty := .int) h (pc' := 81) rfl (fun c q => List.mem_cons_of_mem _ (in3 c q)) ok3 nm3 0 12 rfl rfl (by decide) (List.mem_cons_of_mem _ lk3_71) rfl rfl rfl rfl rfl (Nat.le_of_ble_eq_true rfl) rfl d3_change_78 ?_
          refine x_aload_n h (pc' := 82) rfl d3_change_81 2 rfl rfl ?_
          refine x_iconst (v := (nI 3)) h (pc' := 83) rfl d3_change_82 (by decide) ?_
          refine x_iconst (v := (nI 0)) h (pc' := 84) rfl d3_change_83 (by decide) ?_
          -- copy
          refine x_vV h (pc' := 87) rfl [.int (nI 3), .int (nI 0)] (k3_copy l D cI cZ cS o a1 a2 a3 a4 a5 fc fk fv (stR fi fk fv n3 n0 made n3) fh (nI (made + N)) dn pe so fl (if lf < 0 then -1 else lf - nI (5 * N + 4)) (ev + (nI ((5 * N) + 4))) (fe + (nI 2)) 3 n3 (by omega) h3 e3 0 (by omega) (by omega)) d3_change_84 2 (gd_V ml3_74 im3_copy se3_copy ini3 cd3_copy) rfl ⟨rfl, rfl⟩ hd3_copy ⟨by decide, by decide⟩ ⟨Nat.zero_le _, Nat.zero_le _⟩ 0 rfl rfl rfl [0, 1, 2, 3, 4, 5] rfl rfl rfl (Nat.le_of_ble_eq_true rfl) rfl (fun ww84 pp84 ee84 => ?_)
          subst pp84
          refine x_w (w' := (wR o a1 a2 a3 a4 a5 cI cZ (upd fc 0 (nI n3)) (va_cpy fk fk (31 * 3) (31 * 0) n3) (va_cpy fv fv (31 * 3) (31 * 0) n3) (va_cpy (stR fi fk fv n3 n0 made n3) (stR fi fk fv n3 n0 made n3) (31 * 3) (31 * 0) n3) fh (nI (made + N)) dn pe so fl (if lf < 0 then -1 else lf - nI (5 * N + 4)) (ev + (nI ((5 * N) + 4))) (fe + (nI 2)))) rfl ?_
          refine x_iload_n h (pc' := 88) rfl d3_change_87 1 rfl rfl ?_
          exact hret _ _ _ _ d3_change_88 rfl (Or.inr (Or.inl ⟨by omega, by first | exact Or.inl c29 | exact Or.inr (Int32.not_lt.mp c37), rfl, rfl⟩))
        · skip
          refine x_iconst (v := (-1)) h (pc' := 49) rfl d3_change_48 (by decide) ?_
          refine x_goto (pc' := 58) h d3_change_49 (by decide) ?_
          refine x_top (y := (if lf < 0 then -1 else lf - nI (5 * N + 4))) (if_pos (Int32.not_le.mp c45)).symm ?_
          refine x_put (w' := (wR o a1 a2 a3 a4 a5 cI cZ fc fk fv (stR fi fk fv n3 n0 made n3) fh (nI (made + N)) dn pe so fl (if lf < 0 then -1 else lf - nI (5 * N + 4)) ev fe)) (ty := .int) h (pc' := 61) rfl (fun c q => List.mem_cons_of_mem _ (in3 c q)) ok3 nm3 0 10 rfl rfl (by decide) (List.mem_cons_of_mem _ lk3_26) rfl rfl rfl rfl rfl (Nat.le_of_ble_eq_true rfl) rfl d3_change_58 ?_
          refine x_aload_n h (pc' := 62) rfl d3_change_61 2 rfl rfl ?_
          refine x_dup h (pc' := 63) rfl d3_change_62 rfl ?_
          refine x_get h (pc' := 66) rfl (fun c q => List.mem_cons_of_mem _ (in3 c q)) 0 11 rfl rfl (by decide) (List.mem_cons_of_mem _ lk3_68) rfl rfl d3_change_63 ?_
          refine x_iload_n h (pc' := 67) rfl d3_change_66 0 rfl rfl ?_
          refine x_iadd (z := (ev + (nI ((5 * N) + 4)))) h (pc' := 68) rfl d3_change_67 rfl ?_
          refine x_put (w' := (wR o a1 a2 a3 a4 a5 cI cZ fc fk fv (stR fi fk fv n3 n0 made n3) fh (nI (made + N)) dn pe so fl (if lf < 0 then -1 else lf - nI (5 * N + 4)) (ev + (nI ((5 * N) + 4))) fe)) (ty := .int) h (pc' := 71) rfl (fun c q => List.mem_cons_of_mem _ (in3 c q)) ok3 nm3 0 11 rfl rfl (by decide) (List.mem_cons_of_mem _ lk3_68) rfl rfl rfl rfl rfl (Nat.le_of_ble_eq_true rfl) rfl d3_change_68 ?_
          refine x_aload_n h (pc' := 72) rfl d3_change_71 2 rfl rfl ?_
          refine x_dup h (pc' := 73) rfl d3_change_72 rfl ?_
          refine x_get h (pc' := 76) rfl (fun c q => List.mem_cons_of_mem _ (in3 c q)) 0 12 rfl rfl (by decide) (List.mem_cons_of_mem _ lk3_71) rfl rfl d3_change_73 ?_
          refine x_iconst (v := (nI 2)) h (pc' := 77) rfl d3_change_76 (by decide) ?_
          refine x_iadd (z := (fe + (nI 2))) h (pc' := 78) rfl d3_change_77 rfl ?_
          refine x_put (w' := (wR o a1 a2 a3 a4 a5 cI cZ fc fk fv (stR fi fk fv n3 n0 made n3) fh (nI (made + N)) dn pe so fl (if lf < 0 then -1 else lf - nI (5 * N + 4)) (ev + (nI ((5 * N) + 4))) (fe + (nI 2)))) (ty := .int) h (pc' := 81) rfl (fun c q => List.mem_cons_of_mem _ (in3 c q)) ok3 nm3 0 12 rfl rfl (by decide) (List.mem_cons_of_mem _ lk3_71) rfl rfl rfl rfl rfl (Nat.le_of_ble_eq_true rfl) rfl d3_change_78 ?_
          refine x_aload_n h (pc' := 82) rfl d3_change_81 2 rfl rfl ?_
          refine x_iconst (v := (nI 3)) h (pc' := 83) rfl d3_change_82 (by decide) ?_
          refine x_iconst (v := (nI 0)) h (pc' := 84) rfl d3_change_83 (by decide) ?_
          -- copy
          refine x_vV h (pc' := 87) rfl [.int (nI 3), .int (nI 0)] (k3_copy l D cI cZ cS o a1 a2 a3 a4 a5 fc fk fv (stR fi fk fv n3 n0 made n3) fh (nI (made + N)) dn pe so fl (if lf < 0 then -1 else lf - nI (5 * N + 4)) (ev + (nI ((5 * N) + 4))) (fe + (nI 2)) 3 n3 (by omega) h3 e3 0 (by omega) (by omega)) d3_change_84 2 (gd_V ml3_74 im3_copy se3_copy ini3 cd3_copy) rfl ⟨rfl, rfl⟩ hd3_copy ⟨by decide, by decide⟩ ⟨Nat.zero_le _, Nat.zero_le _⟩ 0 rfl rfl rfl [0, 1, 2, 3, 4, 5] rfl rfl rfl (Nat.le_of_ble_eq_true rfl) rfl (fun ww84 pp84 ee84 => ?_)
          subst pp84
          refine x_w (w' := (wR o a1 a2 a3 a4 a5 cI cZ (upd fc 0 (nI n3)) (va_cpy fk fk (31 * 3) (31 * 0) n3) (va_cpy fv fv (31 * 3) (31 * 0) n3) (va_cpy (stR fi fk fv n3 n0 made n3) (stR fi fk fv n3 n0 made n3) (31 * 3) (31 * 0) n3) fh (nI (made + N)) dn pe so fl (if lf < 0 then -1 else lf - nI (5 * N + 4)) (ev + (nI ((5 * N) + 4))) (fe + (nI 2)))) rfl ?_
          refine x_iload_n h (pc' := 88) rfl d3_change_87 1 rfl rfl ?_
          exact hret _ _ _ _ d3_change_88 rfl (Or.inr (Or.inl ⟨by omega, by first | exact Or.inl c29 | exact Or.inr (Int32.not_lt.mp c37), rfl, rfl⟩))
  · skip
    refine x_bipush (v := (-5)) h (pc' := 18) rfl d3_change_16 (by decide) ?_
    exact hret _ _ _ _ d3_change_18 rfl (Or.inl ⟨by omega, rfl, rfl⟩)
