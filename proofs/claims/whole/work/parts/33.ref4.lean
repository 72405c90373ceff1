set_option maxRecDepth 100000 in
set_option maxHeartbeats 4000000 in
theorem k3_same (l : Launch) (D : va_G) (cI cZ cS : ClassId) (o a1 a2 a3 a4 a5 : Nat) (fc fk fv fi fh : Nat → Int32) (md dn pe so fl lf ev fe : Int32) (s t c c2 a b : Nat) (hs : s < 5) (ht : t < 5) (hc : c ≤ 31) (hc2 : c2 ≤ 31) (ec : fc s = nI c) (ec2 : fc t = nI c2) (ha : a < c) (hb : b < c2) : CI l y3_same w3_same (rmd 3) D (TS3 cI cZ cS) [.ref o, .int (nI s), .int (nI (31 * s + a)), .int (nI t), .int (nI (31 * t + b))] (wR o a1 a2 a3 a4 a5 cI cZ fc fk fv fi fh md dn pe so fl lf ev fe) (fun r w' => r = bi (smT (hiK (sec fk s)) (hiK (sec fk t)) (sec fk s) (sec fv s) (sec fk t) (sec fv t) c c2 a b) ∧ w' = (wR o a1 a2 a3 a4 a5 cI cZ fc fk fv fi fh md dn pe so fl lf ev fe)) := by
  refine x_metZ (lv := [(0, .ref o), (1, .int (nI s)), (2, .int (nI (31 * s + a))), (3, .int (nI t)), (4, .int (nI (31 * t + b)))]) (by decide +kernel) rfl rfl (Nat.le_of_ble_eq_true rfl) rfl ?_
  intro X h hret
  obtain ⟨F, eF⟩ : ∃ F, fsT (hiK (sec fk s)) a = F := ⟨_, rfl⟩
  obtain ⟨G, eG⟩ : ∃ G, fsT (hiK (sec fk t)) b = G := ⟨_, rfl⟩
  obtain ⟨M, eM⟩ : ∃ M, laT (hiK (sec fk s)) c a = M := ⟨_, rfl⟩
  obtain ⟨P, eP⟩ : ∃ P, laT (hiK (sec fk t)) c2 b = P := ⟨_, rfl⟩
  have hF : F ≤ a := eF ▸ fsT_le _ _
  have hG : G ≤ b := eG ▸ fsT_le _ _
  have hM1 : a ≤ M := eM ▸ laT_ge _ _ _
  have hM2 : M < c := eM ▸ laT_lt _ ha
  have hP1 : b ≤ P := eP ▸ laT_ge _ _ _
  have hP2 : P < c2 := eP ▸ laT_lt _ hb
  have eS : smT (hiK (sec fk s)) (hiK (sec fk t)) (sec fk s) (sec fv s) (sec fk t) (sec fv t) c c2 a b = (decide (M - F = P - G) && allF (smE (sec fk s) (sec fv s) (sec fk t) (sec fv t) F G) (M - F + 1)) := by unfold smT; rw [eF, eG, eM, eP]
  have lp : ∀ f k : Nat, k + f = M - F + 1 → ∀ q : Bool, q = (decide (M - F = P - G) && allF (smE (sec fk s) (sec fv s) (sec fk t) (sec fv t) F G) k) → WX X 0 0 53 [(9, .int (nI k)), (8, .int (bi q)), (7, .int (nI (M - F))), (6, .int (nI (31 * t + G))), (5, .int (nI (31 * s + F))), (0, .ref o), (1, .int (nI s)), (2, .int (nI (31 * s + a))), (3, .int (nI t)), (4, .int (nI (31 * t + b)))] (wR o a1 a2 a3 a4 a5 cI cZ fc fk fv fi fh md dn pe so fl lf ev fe) [] := by
    intro f
    induction f with
    | zero =>
      intro k hk q e
      refine x_iload h (pc' := 55) rfl d3_same_53 0 rfl ?_
      refine x_iload h (pc' := 57) rfl d3_same_55 2 rfl ?_
      refine x_icmp_gt (tg := 124) h (pc' := 60) rfl d3_same_57 (by decide) (nI_ltI (by omega) (by omega)) (fun c57 => ?_) (fun c57 => ?_)
      · skip
        refine x_iload h (pc' := 126) rfl d3_same_124 1 rfl ?_
        exact hret _ _ _ _ (bi_nar _) d3_same_126 rfl ⟨by rw [eS, e, show k = M - F + 1 by omega], rfl⟩
      · skip
        exact absurd c57 (by omega)
    | succ f ih =>
      intro k hk q e
      refine x_iload h (pc' := 55) rfl d3_same_53 0 rfl ?_
      refine x_iload h (pc' := 57) rfl d3_same_55 2 rfl ?_
      refine x_icmp_gt (tg := 124) h (pc' := 60) rfl d3_same_57 (by decide) (nI_ltI (by omega) (by omega)) (fun c57 => ?_) (fun c57 => ?_)
      · skip
        exact absurd c57 (by omega)
      · skip
        refine x_iload h (pc' := 62) rfl d3_same_60 1 rfl ?_
        refine x_if_eq (tg := 124) h (pc' := 65) rfl d3_same_62 (by decide) (bi_0 _) (fun c62 => ?_) (fun c62 => ?_)
        · skip
          refine x_iload h (pc' := 126) rfl d3_same_124 1 rfl ?_
          exact hret _ _ _ _ (bi_nar _) d3_same_126 rfl ⟨by rw [eS, c62]; exact congrArg bi (and_mono (k := k) (by omega) (e.symm.trans c62)).symm, rfl⟩
        · skip
          have hq := ne_f c62
          rw [hq] at e
          have hE := and_t e
          have hE1 := of_decide_eq_true hE.1
          refine x_aload_n h (pc' := 66) rfl d3_same_65 5 rfl rfl ?_
          refine x_get h (pc' := 69) rfl (fun c q => List.mem_cons_of_mem _ (in3 c q)) 0 1 rfl rfl (by decide) (List.mem_cons_of_mem _ lk3_13) rfl rfl d3_same_66 ?_
          refine x_iload h (pc' := 71) rfl d3_same_69 4 rfl ?_
          refine x_iload h (pc' := 73) rfl d3_same_71 0 rfl ?_
          refine x_iadd (z := (nI ((31 * s + F) + k))) h (pc' := 74) rfl d3_same_73 (nI_add (31 * s + F) k) ?_
          refine x_top (y := (nI (31 * s + (F + k)))) (congrArg nI (by omega)) ?_
          refine x_iald (v := (fk (31 * s + (F + k)))) h (pc' := 75) rfl 2 0 rfl rfl (by omega) (by decide) d3_same_74 rfl ?_
          refine x_aload_n h (pc' := 76) rfl d3_same_75 5 rfl rfl ?_
          refine x_get h (pc' := 79) rfl (fun c q => List.mem_cons_of_mem _ (in3 c q)) 0 1 rfl rfl (by decide) (List.mem_cons_of_mem _ lk3_13) rfl rfl d3_same_76 ?_
          refine x_iload h (pc' := 81) rfl d3_same_79 3 rfl ?_
          refine x_iload h (pc' := 83) rfl d3_same_81 0 rfl ?_
          refine x_iadd (z := (nI ((31 * t + G) + k))) h (pc' := 84) rfl d3_same_83 (nI_add (31 * t + G) k) ?_
          refine x_top (y := (nI (31 * t + (G + k)))) (congrArg nI (by omega)) ?_
          refine x_iald (v := (fk (31 * t + (G + k)))) h (pc' := 85) rfl 2 0 rfl rfl (by omega) (by decide) d3_same_84 rfl ?_
          refine x_icmp_ne (tg := 115) h (pc' := 88) rfl d3_same_85 (by decide) Iff.rfl (fun c85 => ?_) (fun c85 => ?_)
          · skip
            refine x_iconst (v := (nI 0)) h (pc' := 116) rfl d3_same_115 (by decide) ?_
            refine x_top (y := (bi false)) rfl ?_
            refine x_istore (lv' := [(8, .int (bi false)), (9, .int (nI k)), (7, .int (nI (M - F))), (6, .int (nI (31 * t + G))), (5, .int (nI (31 * s + F))), (0, .ref o), (1, .int (nI s)), (2, .int (nI (31 * s + a))), (3, .int (nI t)), (4, .int (nI (31 * t + b)))]) h (pc' := 118) rfl d3_same_116 (by decide) rfl ?_
            refine x_iinc (lv' := [(9, .int (nI (k + 1))), (8, .int (bi false)), (7, .int (nI (M - F))), (6, .int (nI (31 * t + G))), (5, .int (nI (31 * s + F))), (0, .ref o), (1, .int (nI s)), (2, .int (nI (31 * s + a))), (3, .int (nI t)), (4, .int (nI (31 * t + b)))]) h (pc' := 121) rfl d3_same_118 1 rfl (n_inc k) (by decide) rfl ?_
            refine x_goto (pc' := 53) h d3_same_121 (by decide) ?_
            refine x_lv (lv' := [(9, .int (nI (k + 1))), (8, .int (bi false)), (7, .int (nI (M - F))), (6, .int (nI (31 * t + G))), (5, .int (nI (31 * s + F))), (0, .ref o), (1, .int (nI s)), (2, .int (nI (31 * s + a))), (3, .int (nI t)), (4, .int (nI (31 * t + b)))]) [0, 1, 2, 3, 4, 5, 6, 7, 8, 9] rfl ?_
            exact ih (k + 1) (by omega) false (by rw [hE.1]; show false = (true && (allF (smE (sec fk s) (sec fv s) (sec fk t) (sec fv t) F G) k && (smE (sec fk s) (sec fv s) (sec fk t) (sec fv t) F G) k)); rw [hE.2, show (smE (sec fk s) (sec fv s) (sec fk t) (sec fv t) F G) k = false from by show (decide (sec fk s (F + k) = sec fk t (G + k)) && decide (sec fv s (F + k) = sec fv t (G + k))) = false; first | rw [decide_eq_false (show ¬ sec fk s (F + k) = sec fk t (G + k) from c85)]; rfl | rw [decide_eq_false (show ¬ sec fv s (F + k) = sec fv t (G + k) from c108), Bool.and_false]]; rfl)
          · skip
            refine x_aload_n h (pc' := 89) rfl d3_same_88 5 rfl rfl ?_
            refine x_get h (pc' := 92) rfl (fun c q => List.mem_cons_of_mem _ (in3 c q)) 0 2 rfl rfl (by decide) (List.mem_cons_of_mem _ lk3_16) rfl rfl d3_same_89 ?_
            refine x_iload h (pc' := 94) rfl d3_same_92 4 rfl ?_
            refine x_iload h (pc' := 96) rfl d3_same_94 0 rfl ?_
            refine x_iadd (z := (nI ((31 * s + F) + k))) h (pc' := 97) rfl d3_same_96 (nI_add (31 * s + F) k) ?_
            refine x_top (y := (nI (31 * s + (F + k)))) (congrArg nI (by omega)) ?_
            refine x_iald (v := (fv (31 * s + (F + k)))) h (pc' := 98) rfl 3 0 rfl rfl (by omega) (by decide) d3_same_97 rfl ?_
            refine x_aload_n h (pc' := 99) rfl d3_same_98 5 rfl rfl ?_
            refine x_get h (pc' := 102) rfl (fun c q => List.mem_cons_of_mem _ (in3 c q)) 0 2 rfl rfl (by decide) (List.mem_cons_of_mem _ lk3_16) rfl rfl d3_same_99 ?_
            refine x_iload h (pc' := 104) rfl d3_same_102 3 rfl ?_
            refine x_iload h (pc' := 106) rfl d3_same_104 0 rfl ?_
            refine x_iadd (z := (nI ((31 * t + G) + k))) h (pc' := 107) rfl d3_same_106 (nI_add (31 * t + G) k) ?_
            refine x_top (y := (nI (31 * t + (G + k)))) (congrArg nI (by omega)) ?_
            refine x_iald (v := (fv (31 * t + (G + k)))) h (pc' := 108) rfl 3 0 rfl rfl (by omega) (by decide) d3_same_107 rfl ?_
            refine x_icmp_ne (tg := 115) h (pc' := 111) rfl d3_same_108 (by decide) Iff.rfl (fun c108 => ?_) (fun c108 => ?_)
            · skip
              refine x_iconst (v := (nI 0)) h (pc' := 116) rfl d3_same_115 (by decide) ?_
              refine x_top (y := (bi false)) rfl ?_
              refine x_istore (lv' := [(8, .int (bi false)), (9, .int (nI k)), (7, .int (nI (M - F))), (6, .int (nI (31 * t + G))), (5, .int (nI (31 * s + F))), (0, .ref o), (1, .int (nI s)), (2, .int (nI (31 * s + a))), (3, .int (nI t)), (4, .int (nI (31 * t + b)))]) h (pc' := 118) rfl d3_same_116 (by decide) rfl ?_
              refine x_iinc (lv' := [(9, .int (nI (k + 1))), (8, .int (bi false)), (7, .int (nI (M - F))), (6, .int (nI (31 * t + G))), (5, .int (nI (31 * s + F))), (0, .ref o), (1, .int (nI s)), (2, .int (nI (31 * s + a))), (3, .int (nI t)), (4, .int (nI (31 * t + b)))]) h (pc' := 121) rfl d3_same_118 1 rfl (n_inc k) (by decide) rfl ?_
              refine x_goto (pc' := 53) h d3_same_121 (by decide) ?_
              refine x_lv (lv' := [(9, .int (nI (k + 1))), (8, .int (bi false)), (7, .int (nI (M - F))), (6, .int (nI (31 * t + G))), (5, .int (nI (31 * s + F))), (0, .ref o), (1, .int (nI s)), (2, .int (nI (31 * s + a))), (3, .int (nI t)), (4, .int (nI (31 * t + b)))]) [0, 1, 2, 3, 4, 5, 6, 7, 8, 9] rfl ?_
              exact ih (k + 1) (by omega) false (by rw [hE.1]; show false = (true && (allF (smE (sec fk s) (sec fv s) (sec fk t) (sec fv t) F G) k && (smE (sec fk s) (sec fv s) (sec fk t) (sec fv t) F G) k)); rw [hE.2, show (smE (sec fk s) (sec fv s) (sec fk t) (sec fv t) F G) k = false from by show (decide (sec fk s (F + k) = sec fk t (G + k)) && decide (sec fv s (F + k) = sec fv t (G + k))) = false; first | rw [decide_eq_false (show ¬ sec fk s (F + k) = sec fk t (G + k) from c85)]; rfl | rw [decide_eq_false (show ¬ sec fv s (F + k) = sec fv t (G + k) from c108), Bool.and_false]]; rfl)
            · skip
              refine x_iconst (v := (nI 1)) h (pc' := 112) rfl d3_same_111 (by decide) ?_
              refine x_goto (pc' := 116) h d3_same_112 (by decide) ?_
              refine x_top (y := (bi true)) rfl ?_
              refine x_istore (lv' := [(8, .int (bi true)), (9, .int (nI k)), (7, .int (nI (M - F))), (6, .int (nI (31 * t + G))), (5, .int (nI (31 * s + F))), (0, .ref o), (1, .int (nI s)), (2, .int (nI (31 * s + a))), (3, .int (nI t)), (4, .int (nI (31 * t + b)))]) h (pc' := 118) rfl d3_same_116 (by decide) rfl ?_
              refine x_iinc (lv' := [(9, .int (nI (k + 1))), (8, .int (bi true)), (7, .int (nI (M - F))), (6, .int (nI (31 * t + G))), (5, .int (nI (31 * s + F))), (0, .ref o), (1, .int (nI s)), (2, .int (nI (31 * s + a))), (3, .int (nI t)), (4, .int (nI (31 * t + b)))]) h (pc' := 121) rfl d3_same_118 1 rfl (n_inc k) (by decide) rfl ?_
              refine x_goto (pc' := 53) h d3_same_121 (by decide) ?_
              refine x_lv (lv' := [(9, .int (nI (k + 1))), (8, .int (bi true)), (7, .int (nI (M - F))), (6, .int (nI (31 * t + G))), (5, .int (nI (31 * s + F))), (0, .ref o), (1, .int (nI s)), (2, .int (nI (31 * s + a))), (3, .int (nI t)), (4, .int (nI (31 * t + b)))]) [0, 1, 2, 3, 4, 5, 6, 7, 8, 9] rfl ?_
              exact ih (k + 1) (by omega) true (by rw [hE.1]; show true = (true && (allF (smE (sec fk s) (sec fv s) (sec fk t) (sec fv t) F G) k && smE (sec fk s) (sec fv s) (sec fk t) (sec fv t) F G k)); rw [hE.2, show (smE (sec fk s) (sec fv s) (sec fk t) (sec fv t) F G) k = true from by show (decide (sec fk s (F + k) = sec fk t (G + k)) && decide (sec fv s (F + k) = sec fv t (G + k))) = true; rw [decide_eq_true (show sec fk s (F + k) = sec fk t (G + k) from c85), decide_eq_true (show sec fv s (F + k) = sec fv t (G + k) from c108)]; rfl]; rfl)
  refine x_aload_n h (pc' := 1) rfl d3_same_0 0 rfl rfl ?_
  refine x_iload_n h (pc' := 2) rfl d3_same_1 1 rfl rfl ?_
  refine x_iload_n h (pc' := 3) rfl d3_same_2 2 rfl rfl ?_
  -- first
  refine x_vI h (pc' := 6) rfl [.int (nI s), .int (nI (31 * s + a))] (k3_first l D cI cZ cS o a1 a2 a3 a4 a5 fc fk fv fi fh md dn pe so fl lf ev fe s c hs hc ec a ha) d3_same_3 2 (gd_V ml3_41 im3_first se3_first ini3 cd3_first) rfl ⟨rfl, rfl⟩ hd3_first ⟨by decide, by decide⟩ ⟨Nat.zero_le _, Nat.zero_le _⟩ 0 rfl rfl rfl [0, 1, 2, 3, 4, 5] rfl rfl rfl (Nat.le_of_ble_eq_true rfl) rfl (fun rr3 ww3 pp3 ee3 => ?_)
  obtain ⟨q, rfl⟩ := pp3
  rw [eF] at q
  subst q
  refine x_w (w' := (wR o a1 a2 a3 a4 a5 cI cZ fc fk fv fi fh md dn pe so fl lf ev fe)) rfl ?_
  refine x_istore (lv' := [(5, .int (nI (31 * s + F))), (0, .ref o), (1, .int (nI s)), (2, .int (nI (31 * s + a))), (3, .int (nI t)), (4, .int (nI (31 * t + b)))]) h (pc' := 8) rfl d3_same_6 (by decide) rfl ?_
  refine x_aload_n h (pc' := 9) rfl d3_same_8 1 rfl rfl ?_
  refine x_iload_n h (pc' := 10) rfl d3_same_9 4 rfl rfl ?_
  refine x_iload h (pc' := 12) rfl d3_same_10 5 rfl ?_
  -- first
  refine x_vI h (pc' := 15) rfl [.int (nI t), .int (nI (31 * t + b))] (k3_first l D cI cZ cS o a1 a2 a3 a4 a5 fc fk fv fi fh md dn pe so fl lf ev fe t c2 ht hc2 ec2 b hb) d3_same_12 2 (gd_V ml3_41 im3_first se3_first ini3 cd3_first) rfl ⟨rfl, rfl⟩ hd3_first ⟨by decide, by decide⟩ ⟨Nat.zero_le _, Nat.zero_le _⟩ 0 rfl rfl rfl [0, 1, 2, 3, 4, 5] rfl rfl rfl (Nat.le_of_ble_eq_true rfl) rfl (fun rr12 ww12 pp12 ee12 => ?_)
  obtain ⟨q, rfl⟩ := pp12
  rw [eG] at q
  subst q
  refine x_w (w' := (wR o a1 a2 a3 a4 a5 cI cZ fc fk fv fi fh md dn pe so fl lf ev fe)) rfl ?_
  refine x_istore (lv' := [(6, .int (nI (31 * t + G))), (5, .int (nI (31 * s + F))), (0, .ref o), (1, .int (nI s)), (2, .int (nI (31 * s + a))), (3, .int (nI t)), (4, .int (nI (31 * t + b)))]) h (pc' := 17) rfl d3_same_15 (by decide) rfl ?_
  refine x_aload_n h (pc' := 18) rfl d3_same_17 2 rfl rfl ?_
  refine x_iload_n h (pc' := 19) rfl d3_same_18 3 rfl rfl ?_
  refine x_iload_n h (pc' := 20) rfl d3_same_19 4 rfl rfl ?_
  -- last
  refine x_vI h (pc' := 23) rfl [.int (nI s), .int (nI (31 * s + a))] (k3_last l D cI cZ cS o a1 a2 a3 a4 a5 fc fk fv fi fh md dn pe so fl lf ev fe s c hs hc ec a ha) d3_same_20 2 (gd_V ml3_45 im3_last se3_last ini3 cd3_last) rfl ⟨rfl, rfl⟩ hd3_last ⟨by decide, by decide⟩ ⟨Nat.zero_le _, Nat.zero_le _⟩ 0 rfl rfl rfl [0, 1, 2, 3, 4, 5] rfl rfl rfl (Nat.le_of_ble_eq_true rfl) rfl (fun rr20 ww20 pp20 ee20 => ?_)
  obtain ⟨q, rfl⟩ := pp20
  rw [eM] at q
  subst q
  refine x_w (w' := (wR o a1 a2 a3 a4 a5 cI cZ fc fk fv fi fh md dn pe so fl lf ev fe)) rfl ?_
  refine x_iload h (pc' := 25) rfl d3_same_23 1 rfl ?_
  refine x_isub (z := (nI ((31 * s + M) - (31 * s + F)))) h (pc' := 26) rfl d3_same_25 (pk_sub (by omega)) ?_
  refine x_top (y := (nI (M - F))) (congrArg nI (by omega)) ?_
  refine x_istore (lv' := [(7, .int (nI (M - F))), (6, .int (nI (31 * t + G))), (5, .int (nI (31 * s + F))), (0, .ref o), (1, .int (nI s)), (2, .int (nI (31 * s + a))), (3, .int (nI t)), (4, .int (nI (31 * t + b)))]) h (pc' := 28) rfl d3_same_26 (by decide) rfl ?_
  refine x_iload h (pc' := 30) rfl d3_same_28 0 rfl ?_
  refine x_aload_n h (pc' := 31) rfl d3_same_30 3 rfl rfl ?_
  refine x_iload_n h (pc' := 32) rfl d3_same_31 6 rfl rfl ?_
  refine x_iload h (pc' := 34) rfl d3_same_32 7 rfl ?_
  -- last
  refine x_vI h (pc' := 37) rfl [.int (nI t), .int (nI (31 * t + b))] (k3_last l D cI cZ cS o a1 a2 a3 a4 a5 fc fk fv fi fh md dn pe so fl lf ev fe t c2 ht hc2 ec2 b hb) d3_same_34 2 (gd_V ml3_45 im3_last se3_last ini3 cd3_last) rfl ⟨rfl, rfl⟩ hd3_last ⟨by decide, by decide⟩ ⟨Nat.zero_le _, Nat.zero_le _⟩ 0 rfl rfl rfl [0, 1, 2, 3, 4, 5] rfl rfl rfl (Nat.le_of_ble_eq_true rfl) rfl (fun rr34 ww34 pp34 ee34 => ?_)
  obtain ⟨q, rfl⟩ := pp34
  rw [eP] at q
  subst q
  refine x_w (w' := (wR o a1 a2 a3 a4 a5 cI cZ fc fk fv fi fh md dn pe so fl lf ev fe)) rfl ?_
  refine x_iload h (pc' := 39) rfl d3_same_37 1 rfl ?_
  refine x_isub (z := (nI ((31 * t + P) - (31 * t + G)))) h (pc' := 40) rfl d3_same_39 (pk_sub (by omega)) ?_
  refine x_top (y := (nI (P - G))) (congrArg nI (by omega)) ?_
  refine x_icmp_ne (tg := 47) h (pc' := 43) rfl d3_same_40 (by decide) (nI_eq (by omega) (by omega)) (fun c40 => ?_) (fun c40 => ?_)
  · skip
    refine x_iconst (v := (nI 0)) h (pc' := 48) rfl d3_same_47 (by decide) ?_
    refine x_top (y := (bi false)) rfl ?_
    refine x_istore (lv' := [(8, .int (bi false)), (7, .int (nI (M - F))), (6, .int (nI (31 * t + G))), (5, .int (nI (31 * s + F))), (0, .ref o), (1, .int (nI s)), (2, .int (nI (31 * s + a))), (3, .int (nI t)), (4, .int (nI (31 * t + b)))]) h (pc' := 50) rfl d3_same_48 (by decide) rfl ?_
    refine x_iconst (v := (nI 0)) h (pc' := 51) rfl d3_same_50 (by decide) ?_
    refine x_istore (lv' := [(9, .int (nI 0)), (8, .int (bi false)), (7, .int (nI (M - F))), (6, .int (nI (31 * t + G))), (5, .int (nI (31 * s + F))), (0, .ref o), (1, .int (nI s)), (2, .int (nI (31 * s + a))), (3, .int (nI t)), (4, .int (nI (31 * t + b)))]) h (pc' := 53) rfl d3_same_51 (by decide) rfl ?_
    refine x_lv (lv' := [(9, .int (nI 0)), (8, .int (bi false)), (7, .int (nI (M - F))), (6, .int (nI (31 * t + G))), (5, .int (nI (31 * s + F))), (0, .ref o), (1, .int (nI s)), (2, .int (nI (31 * s + a))), (3, .int (nI t)), (4, .int (nI (31 * t + b)))]) [0, 1, 2, 3, 4, 5, 6, 7, 8, 9] rfl ?_
    exact lp (M - F + 1) 0 (by omega) false (by rw [decide_eq_false c40]; rfl)
  · skip
    refine x_iconst (v := (nI 1)) h (pc' := 44) rfl d3_same_43 (by decide) ?_
    refine x_goto (pc' := 48) h d3_same_44 (by decide) ?_
    refine x_top (y := (bi true)) rfl ?_
    refine x_istore (lv' := [(8, .int (bi true)), (7, .int (nI (M - F))), (6, .int (nI (31 * t + G))), (5, .int (nI (31 * s + F))), (0, .ref o), (1, .int (nI s)), (2, .int (nI (31 * s + a))), (3, .int (nI t)), (4, .int (nI (31 * t + b)))]) h (pc' := 50) rfl d3_same_48 (by decide) rfl ?_
    refine x_iconst (v := (nI 0)) h (pc' := 51) rfl d3_same_50 (by decide) ?_
    refine x_istore (lv' := [(9, .int (nI 0)), (8, .int (bi true)), (7, .int (nI (M - F))), (6, .int (nI (31 * t + G))), (5, .int (nI (31 * s + F))), (0, .ref o), (1, .int (nI s)), (2, .int (nI (31 * s + a))), (3, .int (nI t)), (4, .int (nI (31 * t + b)))]) h (pc' := 53) rfl d3_same_51 (by decide) rfl ?_
    refine x_lv (lv' := [(9, .int (nI 0)), (8, .int (bi true)), (7, .int (nI (M - F))), (6, .int (nI (31 * t + G))), (5, .int (nI (31 * s + F))), (0, .ref o), (1, .int (nI s)), (2, .int (nI (31 * s + a))), (3, .int (nI t)), (4, .int (nI (31 * t + b)))]) [0, 1, 2, 3, 4, 5, 6, 7, 8, 9] rfl ?_
    exact lp (M - F + 1) 0 (by omega) true (by rw [decide_eq_true c40]; rfl)
set_option maxRecDepth 100000 in
set_option maxHeartbeats 4000000 in
theorem k3_inUse (l : Launch) (D : va_G) (cI cZ cS : ClassId) (o a1 a2 a3 a4 a5 : Nat) (fc fk fv fi fh : Nat → Int32) (md dn pe so fl lf ev fe : Int32) (n0 m1 m2 : Nat) (t1 t2 : Bool) (h0 : n0 ≤ 31) (h1 : m1 ≤ 31) (h2 : m2 ≤ 31) (e0 : fc 0 = nI n0) (e1 : fc 1 = nI m1) (e2 : fc 2 = nI m2) (u1 : fh 1 = bi t1) (u2 : fh 2 = bi t2) : CI l y3_inUse w3_inUse (rmd 1) D (TS3 cI cZ cS) [.ref o] (wR o a1 a2 a3 a4 a5 cI cZ fc fk fv fi fh md dn pe so fl lf ev fe) (fun r w' => r = nI (useR fi n0 m1 m2 t1 t2) ∧ w' = (wR o a1 a2 a3 a4 a5 cI cZ fc fk fv fi fh md dn pe so fl lf ev fe)) := by
  refine x_metI (lv := [(0, .ref o)]) (by decide +kernel) rfl rfl (Nat.le_of_ble_eq_true rfl) rfl ?_
  intro X h hret
  obtain ⟨p1, ep1⟩ : ∃ p1 : Nat → Bool, p1 = fun i => memF (sec fi 0) n0 (sec fi 1 i) := ⟨_, rfl⟩
  obtain ⟨p2, ep2⟩ : ∃ p2 : Nat → Bool, p2 = fun i => memF (sec fi 0) n0 (sec fi 2 i) || (t1 && memF (sec fi 1) m1 (sec fi 2 i)) := ⟨_, rfl⟩
  have eU : useR fi n0 m1 m2 t1 t2 = n0 + (if t1 = true then cntF (fun i => !(p1 i)) m1 else 0) + (if t2 = true then cntF (fun i => !(p2 i)) m2 else 0) := by rw [ep1, ep2]; rfl
  have ex3 : ∀ acc : Nat, acc = useR fi n0 m1 m2 t1 t2 → WX X 0 0 9 [(2, .int (nI 3)), (1, .int (nI acc)), (0, .ref o)] (wR o a1 a2 a3 a4 a5 cI cZ fc fk fv fi fh md dn pe so fl lf ev fe) [] := by
    intro acc e
    refine x_iload_n h (pc' := 10) rfl d3_inUse_9 0 rfl rfl ?_
    refine x_iconst (v := (nI 3)) h (pc' := 11) rfl d3_inUse_10 (by decide) ?_
    refine x_icmp_ge (tg := 117) h (pc' := 14) rfl d3_inUse_11 (by decide) (nI_leI (by omega) (by omega)) (fun c11 => ?_) (fun c11 => ?_)
    · skip
      refine x_iload_n h (pc' := 118) rfl d3_inUse_117 1 rfl rfl ?_
      exact hret _ _ _ _ d3_inUse_118 rfl ⟨by rw [e], rfl⟩
    · skip
      exact absurd c11 (by omega)
  have st2 : ∀ A : Nat, A ≤ 62 → A + (if t2 = true then cntF (fun i => !(p2 i)) m2 else 0) = useR fi n0 m1 m2 t1 t2 → WX X 0 0 9 [(2, .int (nI 2)), (1, .int (nI A)), (0, .ref o)] (wR o a1 a2 a3 a4 a5 cI cZ fc fk fv fi fh md dn pe so fl lf ev fe) [] := by
    intro A hA eA
    have lp : t2 = true → ∀ f i : Nat, i + f = m2 → WX X 0 0 19 [(3, .int (nI (31 * 2 + i))), (2, .int (nI 2)), (1, .int (nI (A + cntF (fun i => !(p2 i)) i))), (0, .ref o)] (wR o a1 a2 a3 a4 a5 cI cZ fc fk fv fi fh md dn pe so fl lf ev fe) [] := by
      intro ht f
      induction f with
      | zero =>
        intro i hi
        obtain rfl : i = m2 := by omega
        refine x_iload_n h (pc' := 20) rfl d3_inUse_19 0 rfl rfl ?_
        refine x_bipush (v := (nI 31)) h (pc' := 22) rfl d3_inUse_20 (by decide) ?_
        refine x_iload_n h (pc' := 23) rfl d3_inUse_22 1 rfl rfl ?_
        refine x_imul (z := (nI (31 * 2))) h (pc' := 24) rfl d3_inUse_23 (pk_mul 31 2) ?_
        refine x_aload_n h (pc' := 25) rfl d3_inUse_24 3 rfl rfl ?_
        refine x_get h (pc' := 28) rfl (fun c q => List.mem_cons_of_mem _ (in3 c q)) 0 0 rfl rfl (by decide) (List.mem_cons_of_mem _ lk3_7) rfl rfl d3_inUse_25 ?_
        refine x_iload_n h (pc' := 29) rfl d3_inUse_28 1 rfl rfl ?_
        refine x_iald (v := (nI i)) h (pc' := 30) rfl 1 0 rfl rfl (by omega) (by decide) d3_inUse_29 e2 ?_
        refine x_iadd (z := (nI ((31 * 2) + i))) h (pc' := 31) rfl d3_inUse_30 (nI_add (31 * 2) i) ?_
        refine x_icmp_ge (tg := 111) h (pc' := 34) rfl d3_inUse_31 (by decide) (nI_leI (by omega) (by omega)) (fun c31 => ?_) (fun c31 => ?_)
        · skip
          refine x_iinc (lv' := [(2, .int (nI (2 + 1))), (3, .int (nI (31 * 2 + i))), (1, .int (nI (A + cntF (fun i => !(p2 i)) i))), (0, .ref o)]) h (pc' := 114) rfl d3_inUse_111 1 rfl (n_inc 2) (by decide) rfl ?_
          refine x_goto (pc' := 9) h d3_inUse_114 (by decide) ?_
          refine x_lv (lv' := [(2, .int (nI (2 + 1))), (1, .int (nI (A + cntF (fun i => !(p2 i)) i))), (0, .ref o)]) [0, 2, 3] rfl ?_
          exact ex3 _ (by rw [← eA, if_pos ht])
        · skip
          exact absurd c31 (by omega)
      | succ f ih =>
        intro i hi
        have hcl := cntF_le (fun i => !(p2 i)) i
        refine x_iload_n h (pc' := 20) rfl d3_inUse_19 0 rfl rfl ?_
        refine x_bipush (v := (nI 31)) h (pc' := 22) rfl d3_inUse_20 (by decide) ?_
        refine x_iload_n h (pc' := 23) rfl d3_inUse_22 1 rfl rfl ?_
        refine x_imul (z := (nI (31 * 2))) h (pc' := 24) rfl d3_inUse_23 (pk_mul 31 2) ?_
        refine x_aload_n h (pc' := 25) rfl d3_inUse_24 3 rfl rfl ?_
        refine x_get h (pc' := 28) rfl (fun c q => List.mem_cons_of_mem _ (in3 c q)) 0 0 rfl rfl (by decide) (List.mem_cons_of_mem _ lk3_7) rfl rfl d3_inUse_25 ?_
        refine x_iload_n h (pc' := 29) rfl d3_inUse_28 1 rfl rfl ?_
        refine x_iald (v := (nI m2)) h (pc' := 30) rfl 1 0 rfl rfl (by omega) (by decide) d3_inUse_29 e2 ?_
        refine x_iadd (z := (nI ((31 * 2) + m2))) h (pc' := 31) rfl d3_inUse_30 (nI_add (31 * 2) m2) ?_
        refine x_icmp_ge (tg := 111) h (pc' := 34) rfl d3_inUse_31 (by decide) (nI_leI (by omega) (by omega)) (fun c31 => ?_) (fun c31 => ?_)
        · skip
          exact absurd c31 (by omega)
        · skip
          refine x_aload_n h (pc' := 35) rfl d3_inUse_34 3 rfl rfl ?_
          refine x_get h (pc' := 38) rfl (fun c q => List.mem_cons_of_mem _ (in3 c q)) 0 4 rfl rfl (by decide) (List.mem_cons_of_mem _ lk3_22) rfl rfl d3_inUse_35 ?_
          refine x_iload_n h (pc' := 39) rfl d3_inUse_38 1 rfl rfl ?_
          refine x_zald (v := (bi t2)) h (pc' := 40) rfl 5 1 rfl rfl (by omega) (by decide) d3_inUse_39 u2 ?_
          refine x_if_eq (tg := 111) h (pc' := 43) rfl d3_inUse_40 (by decide) (bi_0 _) (fun c40 => ?_) (fun c40 => ?_)
          · skip
            rw [ht] at c40
            cases c40
          · skip
            refine x_aload_n h (pc' := 44) rfl d3_inUse_43 3 rfl rfl ?_
            refine x_iconst (v := (nI 0)) h (pc' := 45) rfl d3_inUse_44 (by decide) ?_
            refine x_aload_n h (pc' := 46) rfl d3_inUse_45 3 rfl rfl ?_
            refine x_get h (pc' := 49) rfl (fun c q => List.mem_cons_of_mem _ (in3 c q)) 0 3 rfl rfl (by decide) (List.mem_cons_of_mem _ lk3_19) rfl rfl d3_inUse_46 ?_
            refine x_iload_n h (pc' := 50) rfl d3_inUse_49 0 rfl rfl ?_
            refine x_iald (v := (fi (31 * 2 + i))) h (pc' := 51) rfl 4 0 rfl rfl (by omega) (by decide) d3_inUse_50 rfl ?_
            -- hasNode
            refine x_vI h (pc' := 54) rfl [.int (nI 0), .int (fi (31 * 2 + i))] (k3_hasNode l D cI cZ cS o a1 a2 a3 a4 a5 fc fk fv fi fh md dn pe so fl lf ev fe 0 n0 (by omega) h0 e0 (fi (31 * 2 + i))) d3_inUse_51 2 (gd_V ml3_48 im3_hasNode se3_hasNode ini3 cd3_hasNode) rfl ⟨rfl, rfl⟩ hd3_hasNode ⟨by decide, by decide⟩ ⟨Nat.zero_le _, Nat.zero_le _⟩ 0 rfl rfl rfl [0, 1, 2, 3, 4, 5] rfl rfl rfl (Nat.le_of_ble_eq_true rfl) rfl (fun rr51 ww51 pp51 ee51 => ?_)
            obtain ⟨rfl, rfl⟩ := pp51
            refine x_w (w' := (wR o a1 a2 a3 a4 a5 cI cZ fc fk fv fi fh md dn pe so fl lf ev fe)) rfl ?_
            refine x_if_ne (tg := 85) h (pc' := 57) rfl d3_inUse_54 (by decide) (bi_0 _) (fun c54 => ?_) (fun c54 => ?_)
            · skip
              refine x_iconst (v := (nI 1)) h (pc' := 86) rfl d3_inUse_85 (by decide) ?_
              refine x_goto (pc' := 90) h d3_inUse_86 (by decide) ?_
              refine x_top (y := (bi true)) rfl ?_
              have hp : p2 i = true := by rw [ep2]; show (_ || (_ && _)) = true; first | (rw [show memF (sec fi 0) n0 (sec fi 2 i) = true from ne_f c54]; rfl) | (rw [ne_f c68, show memF (sec fi 1) m1 (sec fi 2 i) = true from ne_f c82, Bool.true_and, Bool.or_true])
              refine x_istore (lv' := [(4, .int (bi true)), (3, .int (nI (31 * 2 + i))), (2, .int (nI 2)), (1, .int (nI (A + cntF (fun i => !(p2 i)) i))), (0, .ref o)]) h (pc' := 92) rfl d3_inUse_90 (by decide) rfl ?_
              refine x_iload_n h (pc' := 93) rfl d3_inUse_92 3 rfl rfl ?_
              refine x_iload h (pc' := 95) rfl d3_inUse_93 0 rfl ?_
              refine x_if_eq (tg := 102) h (pc' := 98) rfl d3_inUse_95 (by decide) (bi_0 _) (fun c95 => ?_) (fun c95 => ?_)
              · skip
                cases c95
              · skip
                refine x_iconst (v := (nI 0)) h (pc' := 99) rfl d3_inUse_98 (by decide) ?_
                refine x_goto (pc' := 103) h d3_inUse_99 (by decide) ?_
                refine x_iadd (z := (nI ((A + cntF (fun i => !(p2 i)) i) + 0))) h (pc' := 104) rfl d3_inUse_103 (nI_add (A + cntF (fun i => !(p2 i)) i) 0) ?_
                refine x_istore_n (lv' := [(1, .int (nI ((A + cntF (fun i => !(p2 i)) i) + 0))), (4, .int (bi true)), (3, .int (nI (31 * 2 + i))), (2, .int (nI 2)), (0, .ref o)]) h (pc' := 105) rfl d3_inUse_104 rfl (by decide) rfl ?_
                refine x_iinc (lv' := [(3, .int (nI ((31 * 2 + i) + 1))), (1, .int (nI ((A + cntF (fun i => !(p2 i)) i) + 0))), (4, .int (bi true)), (2, .int (nI 2)), (0, .ref o)]) h (pc' := 108) rfl d3_inUse_105 2 rfl (n_inc (31 * 2 + i)) (by decide) rfl ?_
                refine x_goto (pc' := 19) h d3_inUse_108 (by decide) ?_
                refine x_lv (lv' := [(3, .int (nI (31 * 2 + (i + 1)))), (2, .int (nI 2)), (1, .int (nI ((A + cntF (fun i => !(p2 i)) i) + 0))), (0, .ref o)]) [0, 3, 1, 4] rfl ?_
                have en : (A + cntF (fun i => !(p2 i)) i) + 0 = A + cntF (fun i => !(p2 i)) (i + 1) := by rw [cntF_add0 (by rw [hp]; rfl)]; rfl
                rw [en]
                exact ih (i + 1) (by omega)
            · skip
              refine x_iload_n h (pc' := 58) rfl d3_inUse_57 1 rfl rfl ?_
              refine x_iconst (v := (nI 2)) h (pc' := 59) rfl d3_inUse_58 (by decide) ?_
              refine x_icmp_ne (tg := 89) h (pc' := 62) rfl d3_inUse_59 (by decide) (nI_eq (by omega) (by omega)) (fun c59 => ?_) (fun c59 => ?_)
              · skip
                exact absurd rfl c59
              · skip
                refine x_aload_n h (pc' := 63) rfl d3_inUse_62 3 rfl rfl ?_
                refine x_get h (pc' := 66) rfl (fun c q => List.mem_cons_of_mem _ (in3 c q)) 0 4 rfl rfl (by decide) (List.mem_cons_of_mem _ lk3_22) rfl rfl d3_inUse_63 ?_
                refine x_iconst (v := (nI 1)) h (pc' := 67) rfl d3_inUse_66 (by decide) ?_
                refine x_zald (v := (bi t1)) h (pc' := 68) rfl 5 1 rfl rfl (by omega) (by decide) d3_inUse_67 u1 ?_
                refine x_if_eq (tg := 89) h (pc' := 71) rfl d3_inUse_68 (by decide) (bi_0 _) (fun c68 => ?_) (fun c68 => ?_)
                · skip
                  refine x_iconst (v := (nI 0)) h (pc' := 90) rfl d3_inUse_89 (by decide) ?_
                  refine x_top (y := (bi false)) rfl ?_
                  have hp : p2 i = false := by rw [ep2]; show (_ || (_ && _)) = false; rw [show memF (sec fi 0) n0 (sec fi 2 i) = false from c54]; first | (rw [c68]; rfl) | (rw [show memF (sec fi 1) m1 (sec fi 2 i) = false from c82, Bool.and_false]; rfl)
                  refine x_istore (lv' := [(4, .int (bi false)), (3, .int (nI (31 * 2 + i))), (2, .int (nI 2)), (1, .int (nI (A + cntF (fun i => !(p2 i)) i))), (0, .ref o)]) h (pc' := 92) rfl d3_inUse_90 (by decide) rfl ?_
                  refine x_iload_n h (pc' := 93) rfl d3_inUse_92 3 rfl rfl ?_
                  refine x_iload h (pc' := 95) rfl d3_inUse_93 0 rfl ?_
                  refine x_if_eq (tg := 102) h (pc' := 98) rfl d3_inUse_95 (by decide) (bi_0 _) (fun c95 => ?_) (fun c95 => ?_)
                  · skip
                    refine x_iconst (v := (nI 1)) h (pc' := 103) rfl d3_inUse_102 (by decide) ?_
                    refine x_iadd (z := (nI ((A + cntF (fun i => !(p2 i)) i) + 1))) h (pc' := 104) rfl d3_inUse_103 (nI_add (A + cntF (fun i => !(p2 i)) i) 1) ?_
                    refine x_istore_n (lv' := [(1, .int (nI ((A + cntF (fun i => !(p2 i)) i) + 1))), (4, .int (bi false)), (3, .int (nI (31 * 2 + i))), (2, .int (nI 2)), (0, .ref o)]) h (pc' := 105) rfl d3_inUse_104 rfl (by decide) rfl ?_
                    refine x_iinc (lv' := [(3, .int (nI ((31 * 2 + i) + 1))), (1, .int (nI ((A + cntF (fun i => !(p2 i)) i) + 1))), (4, .int (bi false)), (2, .int (nI 2)), (0, .ref o)]) h (pc' := 108) rfl d3_inUse_105 2 rfl (n_inc (31 * 2 + i)) (by decide) rfl ?_
                    refine x_goto (pc' := 19) h d3_inUse_108 (by decide) ?_
                    refine x_lv (lv' := [(3, .int (nI (31 * 2 + (i + 1)))), (2, .int (nI 2)), (1, .int (nI ((A + cntF (fun i => !(p2 i)) i) + 1))), (0, .ref o)]) [0, 3, 1, 4] rfl ?_
                    have en : (A + cntF (fun i => !(p2 i)) i) + 1 = A + cntF (fun i => !(p2 i)) (i + 1) := by rw [cntF_add1 (by rw [hp]; rfl)]; omega
                    rw [en]
                    exact ih (i + 1) (by omega)
                  · skip
                    exact absurd rfl c95
                · skip
                  refine x_aload_n h (pc' := 72) rfl d3_inUse_71 3 rfl rfl ?_
                  refine x_iconst (v := (nI 1)) h (pc' := 73) rfl d3_inUse_72 (by decide) ?_
                  refine x_aload_n h (pc' := 74) rfl d3_inUse_73 3 rfl rfl ?_
                  refine x_get h (pc' := 77) rfl (fun c q => List.mem_cons_of_mem _ (in3 c q)) 0 3 rfl rfl (by decide) (List.mem_cons_of_mem _ lk3_19) rfl rfl d3_inUse_74 ?_
                  refine x_iload_n h (pc' := 78) rfl d3_inUse_77 0 rfl rfl ?_
                  refine x_iald (v := (fi (31 * 2 + i))) h (pc' := 79) rfl 4 0 rfl rfl (by omega) (by decide) d3_inUse_78 rfl ?_
                  -- hasNode
                  refine x_vI h (pc' := 82) rfl [.int (nI 1), .int (fi (31 * 2 + i))] (k3_hasNode l D cI cZ cS o a1 a2 a3 a4 a5 fc fk fv fi fh md dn pe so fl lf ev fe 1 m1 (by omega) h1 e1 (fi (31 * 2 + i))) d3_inUse_79 2 (gd_V ml3_48 im3_hasNode se3_hasNode ini3 cd3_hasNode) rfl ⟨rfl, rfl⟩ hd3_hasNode ⟨by decide, by decide⟩ ⟨Nat.zero_le _, Nat.zero_le _⟩ 0 rfl rfl rfl [0, 1, 2, 3, 4, 5] rfl rfl rfl (Nat.le_of_ble_eq_true rfl) rfl (fun rr79 ww79 pp79 ee79 => ?_)
                  obtain ⟨rfl, rfl⟩ := pp79
                  refine x_w (w' := (wR o a1 a2 a3 a4 a5 cI cZ fc fk fv fi fh md dn pe so fl lf ev fe)) rfl ?_
                  refine x_if_eq (tg := 89) h (pc' := 85) rfl d3_inUse_82 (by decide) (bi_0 _) (fun c82 => ?_) (fun c82 => ?_)
                  · skip
                    refine x_iconst (v := (nI 0)) h (pc' := 90) rfl d3_inUse_89 (by decide) ?_
                    refine x_top (y := (bi false)) rfl ?_
                    have hp : p2 i = false := by rw [ep2]; show (_ || (_ && _)) = false; rw [show memF (sec fi 0) n0 (sec fi 2 i) = false from c54]; first | (rw [c68]; rfl) | (rw [show memF (sec fi 1) m1 (sec fi 2 i) = false from c82, Bool.and_false]; rfl)
                    refine x_istore (lv' := [(4, .int (bi false)), (3, .int (nI (31 * 2 + i))), (2, .int (nI 2)), (1, .int (nI (A + cntF (fun i => !(p2 i)) i))), (0, .ref o)]) h (pc' := 92) rfl d3_inUse_90 (by decide) rfl ?_
                    refine x_iload_n h (pc' := 93) rfl d3_inUse_92 3 rfl rfl ?_
                    refine x_iload h (pc' := 95) rfl d3_inUse_93 0 rfl ?_
                    refine x_if_eq (tg := 102) h (pc' := 98) rfl d3_inUse_95 (by decide) (bi_0 _) (fun c95 => ?_) (fun c95 => ?_)
                    · skip
                      refine x_iconst (v := (nI 1)) h (pc' := 103) rfl d3_inUse_102 (by decide) ?_
                      refine x_iadd (z := (nI ((A + cntF (fun i => !(p2 i)) i) + 1))) h (pc' := 104) rfl d3_inUse_103 (nI_add (A + cntF (fun i => !(p2 i)) i) 1) ?_
                      refine x_istore_n (lv' := [(1, .int (nI ((A + cntF (fun i => !(p2 i)) i) + 1))), (4, .int (bi false)), (3, .int (nI (31 * 2 + i))), (2, .int (nI 2)), (0, .ref o)]) h (pc' := 105) rfl d3_inUse_104 rfl (by decide) rfl ?_
                      refine x_iinc (lv' := [(3, .int (nI ((31 * 2 + i) + 1))), (1, .int (nI ((A + cntF (fun i => !(p2 i)) i) + 1))), (4, .int (bi false)), (2, .int (nI 2)), (0, .ref o)]) h (pc' := 108) rfl d3_inUse_105 2 rfl (n_inc (31 * 2 + i)) (by decide) rfl ?_
                      refine x_goto (pc' := 19) h d3_inUse_108 (by decide) ?_
                      refine x_lv (lv' := [(3, .int (nI (31 * 2 + (i + 1)))), (2, .int (nI 2)), (1, .int (nI ((A + cntF (fun i => !(p2 i)) i) + 1))), (0, .ref o)]) [0, 3, 1, 4] rfl ?_
                      have en : (A + cntF (fun i => !(p2 i)) i) + 1 = A + cntF (fun i => !(p2 i)) (i + 1) := by rw [cntF_add1 (by rw [hp]; rfl)]; omega
                      rw [en]
                      exact ih (i + 1) (by omega)
                    · skip
                      exact absurd rfl c95
                  · skip
                    refine x_iconst (v := (nI 1)) h (pc' := 86) rfl d3_inUse_85 (by decide) ?_
                    refine x_goto (pc' := 90) h d3_inUse_86 (by decide) ?_
                    refine x_top (y := (bi true)) rfl ?_
                    have hp : p2 i = true := by rw [ep2]; show (_ || (_ && _)) = true; first | (rw [show memF (sec fi 0) n0 (sec fi 2 i) = true from ne_f c54]; rfl) | (rw [ne_f c68, show memF (sec fi 1) m1 (sec fi 2 i) = true from ne_f c82, Bool.true_and, Bool.or_true])
                    refine x_istore (lv' := [(4, .int (bi true)), (3, .int (nI (31 * 2 + i))), (2, .int (nI 2)), (1, .int (nI (A + cntF (fun i => !(p2 i)) i))), (0, .ref o)]) h (pc' := 92) rfl d3_inUse_90 (by decide) rfl ?_
                    refine x_iload_n h (pc' := 93) rfl d3_inUse_92 3 rfl rfl ?_
                    refine x_iload h (pc' := 95) rfl d3_inUse_93 0 rfl ?_
                    refine x_if_eq (tg := 102) h (pc' := 98) rfl d3_inUse_95 (by decide) (bi_0 _) (fun c95 => ?_) (fun c95 => ?_)
                    · skip
                      cases c95
                    · skip
                      refine x_iconst (v := (nI 0)) h (pc' := 99) rfl d3_inUse_98 (by decide) ?_
                      refine x_goto (pc' := 103) h d3_inUse_99 (by decide) ?_
                      refine x_iadd (z := (nI ((A + cntF (fun i => !(p2 i)) i) + 0))) h (pc' := 104) rfl d3_inUse_103 (nI_add (A + cntF (fun i => !(p2 i)) i) 0) ?_
                      refine x_istore_n (lv' := [(1, .int (nI ((A + cntF (fun i => !(p2 i)) i) + 0))), (4, .int (bi true)), (3, .int (nI (31 * 2 + i))), (2, .int (nI 2)), (0, .ref o)]) h (pc' := 105) rfl d3_inUse_104 rfl (by decide) rfl ?_
                      refine x_iinc (lv' := [(3, .int (nI ((31 * 2 + i) + 1))), (1, .int (nI ((A + cntF (fun i => !(p2 i)) i) + 0))), (4, .int (bi true)), (2, .int (nI 2)), (0, .ref o)]) h (pc' := 108) rfl d3_inUse_105 2 rfl (n_inc (31 * 2 + i)) (by decide) rfl ?_
                      refine x_goto (pc' := 19) h d3_inUse_108 (by decide) ?_
                      refine x_lv (lv' := [(3, .int (nI (31 * 2 + (i + 1)))), (2, .int (nI 2)), (1, .int (nI ((A + cntF (fun i => !(p2 i)) i) + 0))), (0, .ref o)]) [0, 3, 1, 4] rfl ?_
                      have en : (A + cntF (fun i => !(p2 i)) i) + 0 = A + cntF (fun i => !(p2 i)) (i + 1) := by rw [cntF_add0 (by rw [hp]; rfl)]; rfl
                      rw [en]
                      exact ih (i + 1) (by omega)
    refine x_iload_n h (pc' := 10) rfl d3_inUse_9 0 rfl rfl ?_
    refine x_iconst (v := (nI 3)) h (pc' := 11) rfl d3_inUse_10 (by decide) ?_
    refine x_icmp_ge (tg := 117) h (pc' := 14) rfl d3_inUse_11 (by decide) (nI_leI (by omega) (by omega)) (fun c11 => ?_) (fun c11 => ?_)
    · skip
      exact absurd c11 (by omega)
    · skip
      refine x_bipush (v := (nI 31)) h (pc' := 16) rfl d3_inUse_14 (by decide) ?_
      refine x_iload_n h (pc' := 17) rfl d3_inUse_16 0 rfl rfl ?_
      refine x_imul (z := (nI (31 * 2))) h (pc' := 18) rfl d3_inUse_17 (pk_mul 31 2) ?_
      refine x_istore_n (lv' := [(3, .int (nI (31 * 2))), (2, .int (nI 2)), (1, .int (nI A)), (0, .ref o)]) h (pc' := 19) rfl d3_inUse_18 rfl (by decide) rfl ?_
      rcases hb : t2 with _ | _
      · skip
        have rd : fh 2 = bi false := by rw [u2, hb]
        refine x_iload_n h (pc' := 20) rfl d3_inUse_19 0 rfl rfl ?_
        refine x_bipush (v := (nI 31)) h (pc' := 22) rfl d3_inUse_20 (by decide) ?_
        refine x_iload_n h (pc' := 23) rfl d3_inUse_22 1 rfl rfl ?_
        refine x_imul (z := (nI (31 * 2))) h (pc' := 24) rfl d3_inUse_23 (pk_mul 31 2) ?_
        refine x_aload_n h (pc' := 25) rfl d3_inUse_24 3 rfl rfl ?_
        refine x_get h (pc' := 28) rfl (fun c q => List.mem_cons_of_mem _ (in3 c q)) 0 0 rfl rfl (by decide) (List.mem_cons_of_mem _ lk3_7) rfl rfl d3_inUse_25 ?_
        refine x_iload_n h (pc' := 29) rfl d3_inUse_28 1 rfl rfl ?_
        refine x_iald (v := (nI m2)) h (pc' := 30) rfl 1 0 rfl rfl (by omega) (by decide) d3_inUse_29 e2 ?_
        refine x_iadd (z := (nI ((31 * 2) + m2))) h (pc' := 31) rfl d3_inUse_30 (nI_add (31 * 2) m2) ?_
        refine x_icmp_ge (tg := 111) h (pc' := 34) rfl d3_inUse_31 (by decide) (nI_leI (by omega) (by omega)) (fun c31 => ?_) (fun c31 => ?_)
        · skip
          refine x_iinc (lv' := [(2, .int (nI (2 + 1))), (3, .int (nI (31 * 2))), (1, .int (nI A)), (0, .ref o)]) h (pc' := 114) rfl d3_inUse_111 1 rfl (n_inc 2) (by decide) rfl ?_
          refine x_goto (pc' := 9) h d3_inUse_114 (by decide) ?_
          refine x_lv (lv' := [(2, .int (nI (2 + 1))), (1, .int (nI A)), (0, .ref o)]) [0, 2, 3] rfl ?_
          exact ex3 _ (by rw [← eA, hb]; rfl)
        · skip
          refine x_aload_n h (pc' := 35) rfl d3_inUse_34 3 rfl rfl ?_
          refine x_get h (pc' := 38) rfl (fun c q => List.mem_cons_of_mem _ (in3 c q)) 0 4 rfl rfl (by decide) (List.mem_cons_of_mem _ lk3_22) rfl rfl d3_inUse_35 ?_
          refine x_iload_n h (pc' := 39) rfl d3_inUse_38 1 rfl rfl ?_
          refine x_zald (v := (bi false)) h (pc' := 40) rfl 5 1 rfl rfl (by omega) (by decide) d3_inUse_39 rd ?_
          refine x_if_eq (tg := 111) h (pc' := 43) rfl d3_inUse_40 (by decide) (bi_0 _) (fun c40 => ?_) (fun c40 => ?_)
          · skip
            refine x_iinc (lv' := [(2, .int (nI (2 + 1))), (3, .int (nI (31 * 2))), (1, .int (nI A)), (0, .ref o)]) h (pc' := 114) rfl d3_inUse_111 1 rfl (n_inc 2) (by decide) rfl ?_
            refine x_goto (pc' := 9) h d3_inUse_114 (by decide) ?_
            refine x_lv (lv' := [(2, .int (nI (2 + 1))), (1, .int (nI A)), (0, .ref o)]) [0, 2, 3] rfl ?_
            exact ex3 _ (by rw [← eA, hb]; rfl)
          · skip
            exact absurd rfl c40
      · skip
        refine x_lv (lv' := [(3, .int (nI (31 * 2 + 0))), (2, .int (nI 2)), (1, .int (nI (A + cntF (fun i => !(p2 i)) 0))), (0, .ref o)]) [0, 1, 2, 3] rfl ?_
        exact lp hb m2 0 (by omega)
  have st1 : ∀ A : Nat, A ≤ 62 → A + (if t1 = true then cntF (fun i => !(p1 i)) m1 else 0) + (if t2 = true then cntF (fun i => !(p2 i)) m2 else 0) = useR fi n0 m1 m2 t1 t2 → WX X 0 0 9 [(2, .int (nI 1)), (1, .int (nI A)), (0, .ref o)] (wR o a1 a2 a3 a4 a5 cI cZ fc fk fv fi fh md dn pe so fl lf ev fe) [] := by
    intro A hA eA
    have lp : t1 = true → ∀ f i : Nat, i + f = m1 → WX X 0 0 19 [(3, .int (nI (31 * 1 + i))), (2, .int (nI 1)), (1, .int (nI (A + cntF (fun i => !(p1 i)) i))), (0, .ref o)] (wR o a1 a2 a3 a4 a5 cI cZ fc fk fv fi fh md dn pe so fl lf ev fe) [] := by
      intro ht f
      induction f with
      | zero =>
        intro i hi
        obtain rfl : i = m1 := by omega
        refine x_iload_n h (pc' := 20) rfl d3_inUse_19 0 rfl rfl ?_
        refine x_bipush (v := (nI 31)) h (pc' := 22) rfl d3_inUse_20 (by decide) ?_
        refine x_iload_n h (pc' := 23) rfl d3_inUse_22 1 rfl rfl ?_
        refine x_imul (z := (nI (31 * 1))) h (pc' := 24) rfl d3_inUse_23 (pk_mul 31 1) ?_
        refine x_aload_n h (pc' := 25) rfl d3_inUse_24 3 rfl rfl ?_
        refine x_get h (pc' := 28) rfl (fun c q => List.mem_cons_of_mem _ (in3 c q)) 0 0 rfl rfl (by decide) (List.mem_cons_of_mem _ lk3_7) rfl rfl d3_inUse_25 ?_
        refine x_iload_n h (pc' := 29) rfl d3_inUse_28 1 rfl rfl ?_
        refine x_iald (v := (nI i)) h (pc' := 30) rfl 1 0 rfl rfl (by omega) (by decide) d3_inUse_29 e1 ?_
        refine x_iadd (z := (nI ((31 * 1) + i))) h (pc' := 31) rfl d3_inUse_30 (nI_add (31 * 1) i) ?_
        refine x_icmp_ge (tg := 111) h (pc' := 34) rfl d3_inUse_31 (by decide) (nI_leI (by omega) (by omega)) (fun c31 => ?_) (fun c31 => ?_)
        · skip
          refine x_iinc (lv' := [(2, .int (nI (1 + 1))), (3, .int (nI (31 * 1 + i))), (1, .int (nI (A + cntF (fun i => !(p1 i)) i))), (0, .ref o)]) h (pc' := 114) rfl d3_inUse_111 1 rfl (n_inc 1) (by decide) rfl ?_
          refine x_goto (pc' := 9) h d3_inUse_114 (by decide) ?_
          refine x_lv (lv' := [(2, .int (nI (1 + 1))), (1, .int (nI (A + cntF (fun i => !(p1 i)) i))), (0, .ref o)]) [0, 2, 3] rfl ?_
          exact st2 _ (by have := cntF_le (fun i => !(p1 i)) i; omega) (by rw [← eA, if_pos ht])
        · skip
          exact absurd c31 (by omega)
      | succ f ih =>
        intro i hi
        have hcl := cntF_le (fun i => !(p1 i)) i
        refine x_iload_n h (pc' := 20) rfl d3_inUse_19 0 rfl rfl ?_
        refine x_bipush (v := (nI 31)) h (pc' := 22) rfl d3_inUse_20 (by decide) ?_
        refine x_iload_n h (pc' := 23) rfl d3_inUse_22 1 rfl rfl ?_
        refine x_imul (z := (nI (31 * 1))) h (pc' := 24) rfl d3_inUse_23 (pk_mul 31 1) ?_
        refine x_aload_n h (pc' := 25) rfl d3_inUse_24 3 rfl rfl ?_
        refine x_get h (pc' := 28) rfl (fun c q => List.mem_cons_of_mem _ (in3 c q)) 0 0 rfl rfl (by decide) (List.mem_cons_of_mem _ lk3_7) rfl rfl d3_inUse_25 ?_
        refine x_iload_n h (pc' := 29) rfl d3_inUse_28 1 rfl rfl ?_
        refine x_iald (v := (nI m1)) h (pc' := 30) rfl 1 0 rfl rfl (by omega) (by decide) d3_inUse_29 e1 ?_
        refine x_iadd (z := (nI ((31 * 1) + m1))) h (pc' := 31) rfl d3_inUse_30 (nI_add (31 * 1) m1) ?_
        refine x_icmp_ge (tg := 111) h (pc' := 34) rfl d3_inUse_31 (by decide) (nI_leI (by omega) (by omega)) (fun c31 => ?_) (fun c31 => ?_)
        · skip
          exact absurd c31 (by omega)
        · skip
          refine x_aload_n h (pc' := 35) rfl d3_inUse_34 3 rfl rfl ?_
          refine x_get h (pc' := 38) rfl (fun c q => List.mem_cons_of_mem _ (in3 c q)) 0 4 rfl rfl (by decide) (List.mem_cons_of_mem _ lk3_22) rfl rfl d3_inUse_35 ?_
          refine x_iload_n h (pc' := 39) rfl d3_inUse_38 1 rfl rfl ?_
          refine x_zald (v := (bi t1)) h (pc' := 40) rfl 5 1 rfl rfl (by omega) (by decide) d3_inUse_39 u1 ?_
          refine x_if_eq (tg := 111) h (pc' := 43) rfl d3_inUse_40 (by decide) (bi_0 _) (fun c40 => ?_) (fun c40 => ?_)
          · skip
            rw [ht] at c40
            cases c40
          · skip
            refine x_aload_n h (pc' := 44) rfl d3_inUse_43 3 rfl rfl ?_
            refine x_iconst (v := (nI 0)) h (pc' := 45) rfl d3_inUse_44 (by decide) ?_
            refine x_aload_n h (pc' := 46) rfl d3_inUse_45 3 rfl rfl ?_
            refine x_get h (pc' := 49) rfl (fun c q => List.mem_cons_of_mem _ (in3 c q)) 0 3 rfl rfl (by decide) (List.mem_cons_of_mem _ lk3_19) rfl rfl d3_inUse_46 ?_
            refine x_iload_n h (pc' := 50) rfl d3_inUse_49 0 rfl rfl ?_
            refine x_iald (v := (fi (31 * 1 + i))) h (pc' := 51) rfl 4 0 rfl rfl (by omega) (by decide) d3_inUse_50 rfl ?_
            -- hasNode
            refine x_vI h (pc' := 54) rfl [.int (nI 0), .int (fi (31 * 1 + i))] (k3_hasNode l D cI cZ cS o a1 a2 a3 a4 a5 fc fk fv fi fh md dn pe so fl lf ev fe 0 n0 (by omega) h0 e0 (fi (31 * 1 + i))) d3_inUse_51 2 (gd_V ml3_48 im3_hasNode se3_hasNode ini3 cd3_hasNode) rfl ⟨rfl, rfl⟩ hd3_hasNode ⟨by decide, by decide⟩ ⟨Nat.zero_le _, Nat.zero_le _⟩ 0 rfl rfl rfl [0, 1, 2, 3, 4, 5] rfl rfl rfl (Nat.le_of_ble_eq_true rfl) rfl (fun rr51 ww51 pp51 ee51 => ?_)
            obtain ⟨rfl, rfl⟩ := pp51
            refine x_w (w' := (wR o a1 a2 a3 a4 a5 cI cZ fc fk fv fi fh md dn pe so fl lf ev fe)) rfl ?_
            refine x_if_ne (tg := 85) h (pc' := 57) rfl d3_inUse_54 (by decide) (bi_0 _) (fun c54 => ?_) (fun c54 => ?_)
            · skip
              refine x_iconst (v := (nI 1)) h (pc' := 86) rfl d3_inUse_85 (by decide) ?_
              refine x_goto (pc' := 90) h d3_inUse_86 (by decide) ?_
              refine x_top (y := (bi true)) rfl ?_
              have hp : p1 i = true := by rw [ep1]; exact ne_f c54
              refine x_istore (lv' := [(4, .int (bi true)), (3, .int (nI (31 * 1 + i))), (2, .int (nI 1)), (1, .int (nI (A + cntF (fun i => !(p1 i)) i))), (0, .ref o)]) h (pc' := 92) rfl d3_inUse_90 (by decide) rfl ?_
              refine x_iload_n h (pc' := 93) rfl d3_inUse_92 3 rfl rfl ?_
              refine x_iload h (pc' := 95) rfl d3_inUse_93 0 rfl ?_
              refine x_if_eq (tg := 102) h (pc' := 98) rfl d3_inUse_95 (by decide) (bi_0 _) (fun c95 => ?_) (fun c95 => ?_)
              · skip
                cases c95
              · skip
                refine x_iconst (v := (nI 0)) h (pc' := 99) rfl d3_inUse_98 (by decide) ?_
                refine x_goto (pc' := 103) h d3_inUse_99 (by decide) ?_
                refine x_iadd (z := (nI ((A + cntF (fun i => !(p1 i)) i) + 0))) h (pc' := 104) rfl d3_inUse_103 (nI_add (A + cntF (fun i => !(p1 i)) i) 0) ?_
                refine x_istore_n (lv' := [(1, .int (nI ((A + cntF (fun i => !(p1 i)) i) + 0))), (4, .int (bi true)), (3, .int (nI (31 * 1 + i))), (2, .int (nI 1)), (0, .ref o)]) h (pc' := 105) rfl d3_inUse_104 rfl (by decide) rfl ?_
                refine x_iinc (lv' := [(3, .int (nI ((31 * 1 + i) + 1))), (1, .int (nI ((A + cntF (fun i => !(p1 i)) i) + 0))), (4, .int (bi true)), (2, .int (nI 1)), (0, .ref o)]) h (pc' := 108) rfl d3_inUse_105 2 rfl (n_inc (31 * 1 + i)) (by decide) rfl ?_
                refine x_goto (pc' := 19) h d3_inUse_108 (by decide) ?_
                refine x_lv (lv' := [(3, .int (nI (31 * 1 + (i + 1)))), (2, .int (nI 1)), (1, .int (nI ((A + cntF (fun i => !(p1 i)) i) + 0))), (0, .ref o)]) [0, 3, 1, 4] rfl ?_
                have en : (A + cntF (fun i => !(p1 i)) i) + 0 = A + cntF (fun i => !(p1 i)) (i + 1) := by rw [cntF_add0 (by rw [hp]; rfl)]; rfl
                rw [en]
                exact ih (i + 1) (by omega)
            · skip
              refine x_iload_n h (pc' := 58) rfl d3_inUse_57 1 rfl rfl ?_
              refine x_iconst (v := (nI 2)) h (pc' := 59) rfl d3_inUse_58 (by decide) ?_
              refine x_icmp_ne (tg := 89) h (pc' := 62) rfl d3_inUse_59 (by decide) (nI_eq (by omega) (by omega)) (fun c59 => ?_) (fun c59 => ?_)
              · skip
                refine x_iconst (v := (nI 0)) h (pc' := 90) rfl d3_inUse_89 (by decide) ?_
                refine x_top (y := (bi false)) rfl ?_
                have hp : p1 i = false := by rw [ep1]; exact c54
                refine x_istore (lv' := [(4, .int (bi false)), (3, .int (nI (31 * 1 + i))), (2, .int (nI 1)), (1, .int (nI (A + cntF (fun i => !(p1 i)) i))), (0, .ref o)]) h (pc' := 92) rfl d3_inUse_90 (by decide) rfl ?_
                refine x_iload_n h (pc' := 93) rfl d3_inUse_92 3 rfl rfl ?_
                refine x_iload h (pc' := 95) rfl d3_inUse_93 0 rfl ?_
                refine x_if_eq (tg := 102) h (pc' := 98) rfl d3_inUse_95 (by decide) (bi_0 _) (fun c95 => ?_) (fun c95 => ?_)
                · skip
                  refine x_iconst (v := (nI 1)) h (pc' := 103) rfl d3_inUse_102 (by decide) ?_
                  refine x_iadd (z := (nI ((A + cntF (fun i => !(p1 i)) i) + 1))) h (pc' := 104) rfl d3_inUse_103 (nI_add (A + cntF (fun i => !(p1 i)) i) 1) ?_
                  refine x_istore_n (lv' := [(1, .int (nI ((A + cntF (fun i => !(p1 i)) i) + 1))), (4, .int (bi false)), (3, .int (nI (31 * 1 + i))), (2, .int (nI 1)), (0, .ref o)]) h (pc' := 105) rfl d3_inUse_104 rfl (by decide) rfl ?_
                  refine x_iinc (lv' := [(3, .int (nI ((31 * 1 + i) + 1))), (1, .int (nI ((A + cntF (fun i => !(p1 i)) i) + 1))), (4, .int (bi false)), (2, .int (nI 1)), (0, .ref o)]) h (pc' := 108) rfl d3_inUse_105 2 rfl (n_inc (31 * 1 + i)) (by decide) rfl ?_
                  refine x_goto (pc' := 19) h d3_inUse_108 (by decide) ?_
                  refine x_lv (lv' := [(3, .int (nI (31 * 1 + (i + 1)))), (2, .int (nI 1)), (1, .int (nI ((A + cntF (fun i => !(p1 i)) i) + 1))), (0, .ref o)]) [0, 3, 1, 4] rfl ?_
                  have en : (A + cntF (fun i => !(p1 i)) i) + 1 = A + cntF (fun i => !(p1 i)) (i + 1) := by rw [cntF_add1 (by rw [hp]; rfl)]; omega
                  rw [en]
                  exact ih (i + 1) (by omega)
                · skip
                  exact absurd rfl c95
              · skip
                exact absurd c59 (by omega)
    refine x_iload_n h (pc' := 10) rfl d3_inUse_9 0 rfl rfl ?_
    refine x_iconst (v := (nI 3)) h (pc' := 11) rfl d3_inUse_10 (by decide) ?_
    refine x_icmp_ge (tg := 117) h (pc' := 14) rfl d3_inUse_11 (by decide) (nI_leI (by omega) (by omega)) (fun c11 => ?_) (fun c11 => ?_)
    · skip
      exact absurd c11 (by omega)
    · skip
      refine x_bipush (v := (nI 31)) h (pc' := 16) rfl d3_inUse_14 (by decide) ?_
      refine x_iload_n h (pc' := 17) rfl d3_inUse_16 0 rfl rfl ?_
      refine x_imul (z := (nI (31 * 1))) h (pc' := 18) rfl d3_inUse_17 (pk_mul 31 1) ?_
      refine x_istore_n (lv' := [(3, .int (nI (31 * 1))), (2, .int (nI 1)), (1, .int (nI A)), (0, .ref o)]) h (pc' := 19) rfl d3_inUse_18 rfl (by decide) rfl ?_
      rcases hb : t1 with _ | _
      · skip
        have rd : fh 1 = bi false := by rw [u1, hb]
        refine x_iload_n h (pc' := 20) rfl d3_inUse_19 0 rfl rfl ?_
        refine x_bipush (v := (nI 31)) h (pc' := 22) rfl d3_inUse_20 (by decide) ?_
        refine x_iload_n h (pc' := 23) rfl d3_inUse_22 1 rfl rfl ?_
        refine x_imul (z := (nI (31 * 1))) h (pc' := 24) rfl d3_inUse_23 (pk_mul 31 1) ?_
        refine x_aload_n h (pc' := 25) rfl d3_inUse_24 3 rfl rfl ?_
        refine x_get h (pc' := 28) rfl (fun c q => List.mem_cons_of_mem _ (in3 c q)) 0 0 rfl rfl (by decide) (List.mem_cons_of_mem _ lk3_7) rfl rfl d3_inUse_25 ?_
        refine x_iload_n h (pc' := 29) rfl d3_inUse_28 1 rfl rfl ?_
        refine x_iald (v := (nI m1)) h (pc' := 30) rfl 1 0 rfl rfl (by omega) (by decide) d3_inUse_29 e1 ?_
        refine x_iadd (z := (nI ((31 * 1) + m1))) h (pc' := 31) rfl d3_inUse_30 (nI_add (31 * 1) m1) ?_
        refine x_icmp_ge (tg := 111) h (pc' := 34) rfl d3_inUse_31 (by decide) (nI_leI (by omega) (by omega)) (fun c31 => ?_) (fun c31 => ?_)
        · skip
          refine x_iinc (lv' := [(2, .int (nI (1 + 1))), (3, .int (nI (31 * 1))), (1, .int (nI A)), (0, .ref o)]) h (pc' := 114) rfl d3_inUse_111 1 rfl (n_inc 1) (by decide) rfl ?_
          refine x_goto (pc' := 9) h d3_inUse_114 (by decide) ?_
          refine x_lv (lv' := [(2, .int (nI (1 + 1))), (1, .int (nI A)), (0, .ref o)]) [0, 2, 3] rfl ?_
          exact st2 _ (by omega) (by rw [← eA, hb]; rfl)
        · skip
          refine x_aload_n h (pc' := 35) rfl d3_inUse_34 3 rfl rfl ?_
          refine x_get h (pc' := 38) rfl (fun c q => List.mem_cons_of_mem _ (in3 c q)) 0 4 rfl rfl (by decide) (List.mem_cons_of_mem _ lk3_22) rfl rfl d3_inUse_35 ?_
          refine x_iload_n h (pc' := 39) rfl d3_inUse_38 1 rfl rfl ?_
          refine x_zald (v := (bi false)) h (pc' := 40) rfl 5 1 rfl rfl (by omega) (by decide) d3_inUse_39 rd ?_
          refine x_if_eq (tg := 111) h (pc' := 43) rfl d3_inUse_40 (by decide) (bi_0 _) (fun c40 => ?_) (fun c40 => ?_)
          · skip
            refine x_iinc (lv' := [(2, .int (nI (1 + 1))), (3, .int (nI (31 * 1))), (1, .int (nI A)), (0, .ref o)]) h (pc' := 114) rfl d3_inUse_111 1 rfl (n_inc 1) (by decide) rfl ?_
            refine x_goto (pc' := 9) h d3_inUse_114 (by decide) ?_
            refine x_lv (lv' := [(2, .int (nI (1 + 1))), (1, .int (nI A)), (0, .ref o)]) [0, 2, 3] rfl ?_
            exact st2 _ (by omega) (by rw [← eA, hb]; rfl)
          · skip
            exact absurd rfl c40
      · skip
        refine x_lv (lv' := [(3, .int (nI (31 * 1 + 0))), (2, .int (nI 1)), (1, .int (nI (A + cntF (fun i => !(p1 i)) 0))), (0, .ref o)]) [0, 1, 2, 3] rfl ?_
        exact lp hb m1 0 (by omega)
  refine x_aload_n h (pc' := 1) rfl d3_inUse_0 0 rfl rfl ?_
  refine x_get h (pc' := 4) rfl (fun c q => List.mem_cons_of_mem _ (in3 c q)) 0 0 rfl rfl (by decide) (List.mem_cons_of_mem _ lk3_7) rfl rfl d3_inUse_1 ?_
  refine x_iconst (v := (nI 0)) h (pc' := 5) rfl d3_inUse_4 (by decide) ?_
  refine x_iald (v := (nI n0)) h (pc' := 6) rfl 1 0 rfl rfl (by omega) (by decide) d3_inUse_5 e0 ?_
  refine x_istore_n (lv' := [(1, .int (nI n0)), (0, .ref o)]) h (pc' := 7) rfl d3_inUse_6 rfl (by decide) rfl ?_
  refine x_iconst (v := (nI 1)) h (pc' := 8) rfl d3_inUse_7 (by decide) ?_
  refine x_istore_n (lv' := [(2, .int (nI 1)), (1, .int (nI n0)), (0, .ref o)]) h (pc' := 9) rfl d3_inUse_8 rfl (by decide) rfl ?_
  exact st1 n0 (by omega) eU.symm
