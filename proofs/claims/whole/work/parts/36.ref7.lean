set_option maxRecDepth 100000 in
set_option maxHeartbeats 4000000 in
theorem k3_hold (l : Launch) (D : va_G) (cI cZ cS : ClassId) (o a1 a2 a3 a4 a5 : Nat) (fc fk fv fi fh : Nat → Int32) (md lf ev fe : Int32) (dn pe so fl : Bool) (n0 : Nat) (h0 : n0 ≤ 31) (e0 : fc 0 = nI n0) (t1 t2 : Bool) (u1 : fh 1 = bi t1) (u2 : fh 2 = bi t2) (slot : Int32) : CI l y3_hold w3_hold (rmd 1) D (TS3 cI cZ cS) [.ref o, .int slot] (wR o a1 a2 a3 a4 a5 cI cZ fc fk fv fi fh md (bi dn) (bi pe) (bi so) (bi fl) lf ev fe) (fun r w' => ((dn = true ∨ ¬ (slot = 0 ∨ slot = 1) ∨ (slot = 0 ∧ t1 = true) ∨ (slot = 1 ∧ t2 = true)) ∧ r = 0 ∧ w' = (wR o a1 a2 a3 a4 a5 cI cZ fc fk fv fi fh md (bi dn) (bi pe) (bi so) (bi fl) lf ev fe)) ∨ (dn = false ∧ slot = 0 ∧ t1 = false ∧ r = 1 ∧ w' = (wR o a1 a2 a3 a4 a5 cI cZ (upd fc (0 + 1) (nI n0)) (va_cpy fk fk (31 * 0) (31 * (0 + 1)) n0) (va_cpy fv fv (31 * 0) (31 * (0 + 1)) n0) (va_cpy fi fi (31 * 0) (31 * (0 + 1)) n0) (upd fh (0 + 1) (nI 1)) md (bi dn) (bi pe) (bi so) (bi fl) lf ev fe)) ∨ (dn = false ∧ slot = 1 ∧ t2 = false ∧ r = 1 ∧ w' = (wR o a1 a2 a3 a4 a5 cI cZ (upd fc (1 + 1) (nI n0)) (va_cpy fk fk (31 * 0) (31 * (1 + 1)) n0) (va_cpy fv fv (31 * 0) (31 * (1 + 1)) n0) (va_cpy fi fi (31 * 0) (31 * (1 + 1)) n0) (upd fh (1 + 1) (nI 1)) md (bi dn) (bi pe) (bi so) (bi fl) lf ev fe))) := by
  refine x_metZ (lv := [(0, .ref o), (1, .int slot)]) (by decide +kernel) rfl rfl (Nat.le_of_ble_eq_true rfl) rfl ?_
  intro X h hret
  refine x_aload_n h (pc' := 1) rfl d3_hold_0 0 rfl rfl ?_
  refine x_get h (pc' := 4) rfl (fun c q => List.mem_cons_of_mem _ (in3 c q)) 0 6 rfl rfl (by decide) (List.mem_cons_of_mem _ lk3_88) rfl rfl d3_hold_1 ?_
  refine x_if_ne (tg := 25) h (pc' := 7) rfl d3_hold_4 (by decide) (bi_0 _) (fun c4 => ?_) (fun c4 => ?_)
  · skip
    refine x_iconst (v := (nI 0)) h (pc' := 26) rfl d3_hold_25 (by decide) ?_
    exact hret _ _ _ _ rfl d3_hold_26 rfl (Or.inl ⟨by first | exact Or.inl (ne_f c4) | exact Or.inl c4 | exact Or.inr (Or.inl (of_decide_eq_false c11)) | exact Or.inr (Or.inr (Or.inl ⟨rfl, ne_f c22⟩)) | exact Or.inr (Or.inr (Or.inr ⟨rfl, ne_f c22⟩)) | exact Or.inr (Or.inr (Or.inl ⟨rfl, c22⟩)) | exact Or.inr (Or.inr (Or.inr ⟨rfl, c22⟩)), rfl, rfl⟩)
  · skip
    refine x_iload_n h (pc' := 8) rfl d3_hold_7 1 rfl rfl ?_
    -- isSlot
    refine x_sI h (pc' := 11) rfl [.int slot] (k3_isSlot l D cI cZ cS slot) d3_hold_8 1 (gd_S ml3_101 st3_isSlot ini3 cd3_isSlot) rfl ⟨rfl, rfl⟩ hd3_isSlot ⟨by decide, by decide⟩ ⟨Nat.zero_le _, Nat.zero_le _⟩ [] rfl rfl rfl (Nat.le_of_ble_eq_true rfl) rfl (fun rr8 ww8 pp8 ee8 => ?_)
    obtain ⟨rfl, rfl⟩ := pp8
    refine x_w (w' := (wR o a1 a2 a3 a4 a5 cI cZ fc fk fv fi fh md (bi dn) (bi pe) (bi so) (bi fl) lf ev fe)) rfl ?_
    refine x_if_eq (tg := 25) h (pc' := 14) rfl d3_hold_11 (by decide) (bi_0 _) (fun c11 => ?_) (fun c11 => ?_)
    · skip
      refine x_iconst (v := (nI 0)) h (pc' := 26) rfl d3_hold_25 (by decide) ?_
      exact hret _ _ _ _ rfl d3_hold_26 rfl (Or.inl ⟨by first | exact Or.inl (ne_f c4) | exact Or.inl c4 | exact Or.inr (Or.inl (of_decide_eq_false c11)) | exact Or.inr (Or.inr (Or.inl ⟨rfl, ne_f c22⟩)) | exact Or.inr (Or.inr (Or.inr ⟨rfl, ne_f c22⟩)) | exact Or.inr (Or.inr (Or.inl ⟨rfl, c22⟩)) | exact Or.inr (Or.inr (Or.inr ⟨rfl, c22⟩)), rfl, rfl⟩)
    · skip
      rcases of_decide_eq_true (ne_f c11) with hs | hs
      · skip
        obtain rfl : slot = nI 0 := hs
        refine x_aload_n h (pc' := 15) rfl d3_hold_14 0 rfl rfl ?_
        refine x_get h (pc' := 18) rfl (fun c q => List.mem_cons_of_mem _ (in3 c q)) 0 4 rfl rfl (by decide) (List.mem_cons_of_mem _ lk3_22) rfl rfl d3_hold_15 ?_
        refine x_iload_n h (pc' := 19) rfl d3_hold_18 1 rfl rfl ?_
        refine x_iconst (v := (nI 1)) h (pc' := 20) rfl d3_hold_19 (by decide) ?_
        refine x_iadd (z := (nI (0 + 1))) h (pc' := 21) rfl d3_hold_20 (nI_add 0 1) ?_
        refine x_zald (v := (bi t1)) h (pc' := 22) rfl 5 1 rfl rfl (by omega) (by decide) d3_hold_21 u1 ?_
        refine x_if_eq (tg := 27) h (pc' := 25) rfl d3_hold_22 (by decide) (bi_0 _) (fun c22 => ?_) (fun c22 => ?_)
        · skip
          refine x_aload_n h (pc' := 28) rfl d3_hold_27 0 rfl rfl ?_
          refine x_get h (pc' := 31) rfl (fun c q => List.mem_cons_of_mem _ (in3 c q)) 0 4 rfl rfl (by decide) (List.mem_cons_of_mem _ lk3_22) rfl rfl d3_hold_28 ?_
          refine x_iload_n h (pc' := 32) rfl d3_hold_31 1 rfl rfl ?_
          refine x_iconst (v := (nI 1)) h (pc' := 33) rfl d3_hold_32 (by decide) ?_
          refine x_iadd (z := (nI (0 + 1))) h (pc' := 34) rfl d3_hold_33 (nI_add 0 1) ?_
          refine x_iconst (v := (nI 1)) h (pc' := 35) rfl d3_hold_34 (by decide) ?_
          refine x_zast (w' := (wR o a1 a2 a3 a4 a5 cI cZ fc fk fv fi (upd fh (0 + 1) (nI 1)) md (bi dn) (bi pe) (bi so) (bi fl) lf ev fe)) h (pc' := 36) rfl 5 1 rfl rfl (by omega) (by decide) d3_hold_35 rfl rfl ?_
          refine x_aload_n h (pc' := 37) rfl d3_hold_36 0 rfl rfl ?_
          refine x_iconst (v := (nI 0)) h (pc' := 38) rfl d3_hold_37 (by decide) ?_
          refine x_iload_n h (pc' := 39) rfl d3_hold_38 1 rfl rfl ?_
          refine x_iconst (v := (nI 1)) h (pc' := 40) rfl d3_hold_39 (by decide) ?_
          refine x_iadd (z := (nI (0 + 1))) h (pc' := 41) rfl d3_hold_40 (nI_add 0 1) ?_
          -- copy
          refine x_vV h (pc' := 44) rfl [.int (nI 0), .int (nI (0 + 1))] (k3_copy l D cI cZ cS o a1 a2 a3 a4 a5 fc fk fv fi (upd fh (0 + 1) (nI 1)) md (bi dn) (bi pe) (bi so) (bi fl) lf ev fe 0 n0 (by omega) h0 e0 (0 + 1) (by omega) (by omega)) d3_hold_41 2 (gd_V ml3_74 im3_copy se3_copy ini3 cd3_copy) rfl ⟨rfl, rfl⟩ hd3_copy ⟨by decide, by decide⟩ ⟨Nat.zero_le _, Nat.zero_le _⟩ 0 rfl rfl rfl [0, 1, 2, 3, 4, 5] rfl rfl rfl (Nat.le_of_ble_eq_true rfl) rfl (fun ww41 pp41 ee41 => ?_)
          subst pp41
          refine x_w (w' := (wR o a1 a2 a3 a4 a5 cI cZ (upd fc (0 + 1) (nI n0)) (va_cpy fk fk (31 * 0) (31 * (0 + 1)) n0) (va_cpy fv fv (31 * 0) (31 * (0 + 1)) n0) (va_cpy fi fi (31 * 0) (31 * (0 + 1)) n0) (upd fh (0 + 1) (nI 1)) md (bi dn) (bi pe) (bi so) (bi fl) lf ev fe)) rfl ?_
          refine x_iconst (v := (nI 1)) h (pc' := 45) rfl d3_hold_44 (by decide) ?_
          exact hret _ _ _ _ rfl d3_hold_45 rfl (Or.inr (Or.inl ⟨c4, rfl, by first | exact c22 | exact ne_f c22, rfl, rfl⟩))
        · skip
          refine x_iconst (v := (nI 0)) h (pc' := 26) rfl d3_hold_25 (by decide) ?_
          exact hret _ _ _ _ rfl d3_hold_26 rfl (Or.inl ⟨by first | exact Or.inl (ne_f c4) | exact Or.inl c4 | exact Or.inr (Or.inl (of_decide_eq_false c11)) | exact Or.inr (Or.inr (Or.inl ⟨rfl, ne_f c22⟩)) | exact Or.inr (Or.inr (Or.inr ⟨rfl, ne_f c22⟩)) | exact Or.inr (Or.inr (Or.inl ⟨rfl, c22⟩)) | exact Or.inr (Or.inr (Or.inr ⟨rfl, c22⟩)), rfl, rfl⟩)
      · skip
        obtain rfl : slot = nI 1 := hs
        refine x_aload_n h (pc' := 15) rfl d3_hold_14 0 rfl rfl ?_
        refine x_get h (pc' := 18) rfl (fun c q => List.mem_cons_of_mem _ (in3 c q)) 0 4 rfl rfl (by decide) (List.mem_cons_of_mem _ lk3_22) rfl rfl d3_hold_15 ?_
        refine x_iload_n h (pc' := 19) rfl d3_hold_18 1 rfl rfl ?_
        refine x_iconst (v := (nI 1)) h (pc' := 20) rfl d3_hold_19 (by decide) ?_
        refine x_iadd (z := (nI (1 + 1))) h (pc' := 21) rfl d3_hold_20 (nI_add 1 1) ?_
        refine x_zald (v := (bi t2)) h (pc' := 22) rfl 5 1 rfl rfl (by omega) (by decide) d3_hold_21 u2 ?_
        refine x_if_eq (tg := 27) h (pc' := 25) rfl d3_hold_22 (by decide) (bi_0 _) (fun c22 => ?_) (fun c22 => ?_)
        · skip
          refine x_aload_n h (pc' := 28) rfl d3_hold_27 0 rfl rfl ?_
          refine x_get h (pc' := 31) rfl (fun c q => List.mem_cons_of_mem _ (in3 c q)) 0 4 rfl rfl (by decide) (List.mem_cons_of_mem _ lk3_22) rfl rfl d3_hold_28 ?_
          refine x_iload_n h (pc' := 32) rfl d3_hold_31 1 rfl rfl ?_
          refine x_iconst (v := (nI 1)) h (pc' := 33) rfl d3_hold_32 (by decide) ?_
          refine x_iadd (z := (nI (1 + 1))) h (pc' := 34) rfl d3_hold_33 (nI_add 1 1) ?_
          refine x_iconst (v := (nI 1)) h (pc' := 35) rfl d3_hold_34 (by decide) ?_
          refine x_zast (w' := (wR o a1 a2 a3 a4 a5 cI cZ fc fk fv fi (upd fh (1 + 1) (nI 1)) md (bi dn) (bi pe) (bi so) (bi fl) lf ev fe)) h (pc' := 36) rfl 5 1 rfl rfl (by omega) (by decide) d3_hold_35 rfl rfl ?_
          refine x_aload_n h (pc' := 37) rfl d3_hold_36 0 rfl rfl ?_
          refine x_iconst (v := (nI 0)) h (pc' := 38) rfl d3_hold_37 (by decide) ?_
          refine x_iload_n h (pc' := 39) rfl d3_hold_38 1 rfl rfl ?_
          refine x_iconst (v := (nI 1)) h (pc' := 40) rfl d3_hold_39 (by decide) ?_
          refine x_iadd (z := (nI (1 + 1))) h (pc' := 41) rfl d3_hold_40 (nI_add 1 1) ?_
          -- copy
          refine x_vV h (pc' := 44) rfl [.int (nI 0), .int (nI (1 + 1))] (k3_copy l D cI cZ cS o a1 a2 a3 a4 a5 fc fk fv fi (upd fh (1 + 1) (nI 1)) md (bi dn) (bi pe) (bi so) (bi fl) lf ev fe 0 n0 (by omega) h0 e0 (1 + 1) (by omega) (by omega)) d3_hold_41 2 (gd_V ml3_74 im3_copy se3_copy ini3 cd3_copy) rfl ⟨rfl, rfl⟩ hd3_copy ⟨by decide, by decide⟩ ⟨Nat.zero_le _, Nat.zero_le _⟩ 0 rfl rfl rfl [0, 1, 2, 3, 4, 5] rfl rfl rfl (Nat.le_of_ble_eq_true rfl) rfl (fun ww41 pp41 ee41 => ?_)
          subst pp41
          refine x_w (w' := (wR o a1 a2 a3 a4 a5 cI cZ (upd fc (1 + 1) (nI n0)) (va_cpy fk fk (31 * 0) (31 * (1 + 1)) n0) (va_cpy fv fv (31 * 0) (31 * (1 + 1)) n0) (va_cpy fi fi (31 * 0) (31 * (1 + 1)) n0) (upd fh (1 + 1) (nI 1)) md (bi dn) (bi pe) (bi so) (bi fl) lf ev fe)) rfl ?_
          refine x_iconst (v := (nI 1)) h (pc' := 45) rfl d3_hold_44 (by decide) ?_
          exact hret _ _ _ _ rfl d3_hold_45 rfl (Or.inr (Or.inr ⟨c4, rfl, by first | exact c22 | exact ne_f c22, rfl, rfl⟩))
        · skip
          refine x_iconst (v := (nI 0)) h (pc' := 26) rfl d3_hold_25 (by decide) ?_
          exact hret _ _ _ _ rfl d3_hold_26 rfl (Or.inl ⟨by first | exact Or.inl (ne_f c4) | exact Or.inl c4 | exact Or.inr (Or.inl (of_decide_eq_false c11)) | exact Or.inr (Or.inr (Or.inl ⟨rfl, ne_f c22⟩)) | exact Or.inr (Or.inr (Or.inr ⟨rfl, ne_f c22⟩)) | exact Or.inr (Or.inr (Or.inl ⟨rfl, c22⟩)) | exact Or.inr (Or.inr (Or.inr ⟨rfl, c22⟩)), rfl, rfl⟩)
set_option maxRecDepth 100000 in
set_option maxHeartbeats 4000000 in
theorem k3_release (l : Launch) (D : va_G) (cI cZ cS : ClassId) (o a1 a2 a3 a4 a5 : Nat) (fc fk fv fi fh : Nat → Int32) (md lf ev fe : Int32) (dn pe so fl : Bool) (t1 t2 : Bool) (u1 : fh 1 = bi t1) (u2 : fh 2 = bi t2) (slot : Int32) : CI l y3_release w3_release (rmd 1) D (TS3 cI cZ cS) [.ref o, .int slot] (wR o a1 a2 a3 a4 a5 cI cZ fc fk fv fi fh md (bi dn) (bi pe) (bi so) (bi fl) lf ev fe) (fun r w' => ((dn = true ∨ ¬ (slot = 0 ∨ slot = 1) ∨ (slot = 0 ∧ t1 = false) ∨ (slot = 1 ∧ t2 = false)) ∧ r = 0 ∧ w' = (wR o a1 a2 a3 a4 a5 cI cZ fc fk fv fi fh md (bi dn) (bi pe) (bi so) (bi fl) lf ev fe)) ∨ (dn = false ∧ slot = 0 ∧ t1 = true ∧ r = 1 ∧ w' = (wR o a1 a2 a3 a4 a5 cI cZ fc fk fv fi (upd fh (0 + 1) (nI 0)) md (bi dn) (bi pe) (bi so) (bi fl) lf ev fe)) ∨ (dn = false ∧ slot = 1 ∧ t2 = true ∧ r = 1 ∧ w' = (wR o a1 a2 a3 a4 a5 cI cZ fc fk fv fi (upd fh (1 + 1) (nI 0)) md (bi dn) (bi pe) (bi so) (bi fl) lf ev fe))) := by
  refine x_metZ (lv := [(0, .ref o), (1, .int slot)]) (by decide +kernel) rfl rfl (Nat.le_of_ble_eq_true rfl) rfl ?_
  intro X h hret
  refine x_aload_n h (pc' := 1) rfl d3_release_0 0 rfl rfl ?_
  refine x_get h (pc' := 4) rfl (fun c q => List.mem_cons_of_mem _ (in3 c q)) 0 6 rfl rfl (by decide) (List.mem_cons_of_mem _ lk3_88) rfl rfl d3_release_1 ?_
  refine x_if_ne (tg := 25) h (pc' := 7) rfl d3_release_4 (by decide) (bi_0 _) (fun c4 => ?_) (fun c4 => ?_)
  · skip
    refine x_iconst (v := (nI 0)) h (pc' := 26) rfl d3_release_25 (by decide) ?_
    exact hret _ _ _ _ rfl d3_release_26 rfl (Or.inl ⟨by first | exact Or.inl (ne_f c4) | exact Or.inl c4 | exact Or.inr (Or.inl (of_decide_eq_false c11)) | exact Or.inr (Or.inr (Or.inl ⟨rfl, ne_f c22⟩)) | exact Or.inr (Or.inr (Or.inr ⟨rfl, ne_f c22⟩)) | exact Or.inr (Or.inr (Or.inl ⟨rfl, c22⟩)) | exact Or.inr (Or.inr (Or.inr ⟨rfl, c22⟩)), rfl, rfl⟩)
  · skip
    refine x_iload_n h (pc' := 8) rfl d3_release_7 1 rfl rfl ?_
    -- isSlot
    refine x_sI h (pc' := 11) rfl [.int slot] (k3_isSlot l D cI cZ cS slot) d3_release_8 1 (gd_S ml3_101 st3_isSlot ini3 cd3_isSlot) rfl ⟨rfl, rfl⟩ hd3_isSlot ⟨by decide, by decide⟩ ⟨Nat.zero_le _, Nat.zero_le _⟩ [] rfl rfl rfl (Nat.le_of_ble_eq_true rfl) rfl (fun rr8 ww8 pp8 ee8 => ?_)
    obtain ⟨rfl, rfl⟩ := pp8
    refine x_w (w' := (wR o a1 a2 a3 a4 a5 cI cZ fc fk fv fi fh md (bi dn) (bi pe) (bi so) (bi fl) lf ev fe)) rfl ?_
    refine x_if_eq (tg := 25) h (pc' := 14) rfl d3_release_11 (by decide) (bi_0 _) (fun c11 => ?_) (fun c11 => ?_)
    · skip
      refine x_iconst (v := (nI 0)) h (pc' := 26) rfl d3_release_25 (by decide) ?_
      exact hret _ _ _ _ rfl d3_release_26 rfl (Or.inl ⟨by first | exact Or.inl (ne_f c4) | exact Or.inl c4 | exact Or.inr (Or.inl (of_decide_eq_false c11)) | exact Or.inr (Or.inr (Or.inl ⟨rfl, ne_f c22⟩)) | exact Or.inr (Or.inr (Or.inr ⟨rfl, ne_f c22⟩)) | exact Or.inr (Or.inr (Or.inl ⟨rfl, c22⟩)) | exact Or.inr (Or.inr (Or.inr ⟨rfl, c22⟩)), rfl, rfl⟩)
    · skip
      rcases of_decide_eq_true (ne_f c11) with hs | hs
      · skip
        obtain rfl : slot = nI 0 := hs
        refine x_aload_n h (pc' := 15) rfl d3_release_14 0 rfl rfl ?_
        refine x_get h (pc' := 18) rfl (fun c q => List.mem_cons_of_mem _ (in3 c q)) 0 4 rfl rfl (by decide) (List.mem_cons_of_mem _ lk3_22) rfl rfl d3_release_15 ?_
        refine x_iload_n h (pc' := 19) rfl d3_release_18 1 rfl rfl ?_
        refine x_iconst (v := (nI 1)) h (pc' := 20) rfl d3_release_19 (by decide) ?_
        refine x_iadd (z := (nI (0 + 1))) h (pc' := 21) rfl d3_release_20 (nI_add 0 1) ?_
        refine x_zald (v := (bi t1)) h (pc' := 22) rfl 5 1 rfl rfl (by omega) (by decide) d3_release_21 u1 ?_
        refine x_if_ne (tg := 27) h (pc' := 25) rfl d3_release_22 (by decide) (bi_0 _) (fun c22 => ?_) (fun c22 => ?_)
        · skip
          refine x_aload_n h (pc' := 28) rfl d3_release_27 0 rfl rfl ?_
          refine x_get h (pc' := 31) rfl (fun c q => List.mem_cons_of_mem _ (in3 c q)) 0 4 rfl rfl (by decide) (List.mem_cons_of_mem _ lk3_22) rfl rfl d3_release_28 ?_
          refine x_iload_n h (pc' := 32) rfl d3_release_31 1 rfl rfl ?_
          refine x_iconst (v := (nI 1)) h (pc' := 33) rfl d3_release_32 (by decide) ?_
          refine x_iadd (z := (nI (0 + 1))) h (pc' := 34) rfl d3_release_33 (nI_add 0 1) ?_
          refine x_iconst (v := (nI 0)) h (pc' := 35) rfl d3_release_34 (by decide) ?_
          refine x_zast (w' := (wR o a1 a2 a3 a4 a5 cI cZ fc fk fv fi (upd fh (0 + 1) (nI 0)) md (bi dn) (bi pe) (bi so) (bi fl) lf ev fe)) h (pc' := 36) rfl 5 1 rfl rfl (by omega) (by decide) d3_release_35 rfl rfl ?_
          refine x_iconst (v := (nI 1)) h (pc' := 37) rfl d3_release_36 (by decide) ?_
          exact hret _ _ _ _ rfl d3_release_37 rfl (Or.inr (Or.inl ⟨c4, rfl, by first | exact c22 | exact ne_f c22, rfl, rfl⟩))
        · skip
          refine x_iconst (v := (nI 0)) h (pc' := 26) rfl d3_release_25 (by decide) ?_
          exact hret _ _ _ _ rfl d3_release_26 rfl (Or.inl ⟨by first | exact Or.inl (ne_f c4) | exact Or.inl c4 | exact Or.inr (Or.inl (of_decide_eq_false c11)) | exact Or.inr (Or.inr (Or.inl ⟨rfl, ne_f c22⟩)) | exact Or.inr (Or.inr (Or.inr ⟨rfl, ne_f c22⟩)) | exact Or.inr (Or.inr (Or.inl ⟨rfl, c22⟩)) | exact Or.inr (Or.inr (Or.inr ⟨rfl, c22⟩)), rfl, rfl⟩)
      · skip
        obtain rfl : slot = nI 1 := hs
        refine x_aload_n h (pc' := 15) rfl d3_release_14 0 rfl rfl ?_
        refine x_get h (pc' := 18) rfl (fun c q => List.mem_cons_of_mem _ (in3 c q)) 0 4 rfl rfl (by decide) (List.mem_cons_of_mem _ lk3_22) rfl rfl d3_release_15 ?_
        refine x_iload_n h (pc' := 19) rfl d3_release_18 1 rfl rfl ?_
        refine x_iconst (v := (nI 1)) h (pc' := 20) rfl d3_release_19 (by decide) ?_
        refine x_iadd (z := (nI (1 + 1))) h (pc' := 21) rfl d3_release_20 (nI_add 1 1) ?_
        refine x_zald (v := (bi t2)) h (pc' := 22) rfl 5 1 rfl rfl (by omega) (by decide) d3_release_21 u2 ?_
        refine x_if_ne (tg := 27) h (pc' := 25) rfl d3_release_22 (by decide) (bi_0 _) (fun c22 => ?_) (fun c22 => ?_)
        · skip
          refine x_aload_n h (pc' := 28) rfl d3_release_27 0 rfl rfl ?_
          refine x_get h (pc' := 31) rfl (fun c q => List.mem_cons_of_mem _ (in3 c q)) 0 4 rfl rfl (by decide) (List.mem_cons_of_mem _ lk3_22) rfl rfl d3_release_28 ?_
          refine x_iload_n h (pc' := 32) rfl d3_release_31 1 rfl rfl ?_
          refine x_iconst (v := (nI 1)) h (pc' := 33) rfl d3_release_32 (by decide) ?_
          refine x_iadd (z := (nI (1 + 1))) h (pc' := 34) rfl d3_release_33 (nI_add 1 1) ?_
          refine x_iconst (v := (nI 0)) h (pc' := 35) rfl d3_release_34 (by decide) ?_
          refine x_zast (w' := (wR o a1 a2 a3 a4 a5 cI cZ fc fk fv fi (upd fh (1 + 1) (nI 0)) md (bi dn) (bi pe) (bi so) (bi fl) lf ev fe)) h (pc' := 36) rfl 5 1 rfl rfl (by omega) (by decide) d3_release_35 rfl rfl ?_
          refine x_iconst (v := (nI 1)) h (pc' := 37) rfl d3_release_36 (by decide) ?_
          exact hret _ _ _ _ rfl d3_release_37 rfl (Or.inr (Or.inr ⟨c4, rfl, by first | exact c22 | exact ne_f c22, rfl, rfl⟩))
        · skip
          refine x_iconst (v := (nI 0)) h (pc' := 26) rfl d3_release_25 (by decide) ?_
          exact hret _ _ _ _ rfl d3_release_26 rfl (Or.inl ⟨by first | exact Or.inl (ne_f c4) | exact Or.inl c4 | exact Or.inr (Or.inl (of_decide_eq_false c11)) | exact Or.inr (Or.inr (Or.inl ⟨rfl, ne_f c22⟩)) | exact Or.inr (Or.inr (Or.inr ⟨rfl, ne_f c22⟩)) | exact Or.inr (Or.inr (Or.inl ⟨rfl, c22⟩)) | exact Or.inr (Or.inr (Or.inr ⟨rfl, c22⟩)), rfl, rfl⟩)
set_option maxRecDepth 100000 in
set_option maxHeartbeats 4000000 in
theorem k3_heldGet (l : Launch) (D : va_G) (cI cZ cS : ClassId) (o a1 a2 a3 a4 a5 : Nat) (fc fk fv fi fh : Nat → Int32) (md lf ev fe : Int32) (dn pe so fl : Bool) (m1 m2 : Nat) (h1 : m1 ≤ 31) (h2 : m2 ≤ 31) (e1 : fc 1 = nI m1) (e2 : fc 2 = nI m2) (t1 t2 : Bool) (u1 : fh 1 = bi t1) (u2 : fh 2 = bi t2) (slot key : Int32) : CI l y3_heldGet w3_heldGet (rmd 2) D (TS3 cI cZ cS) [.ref o, .int slot, .int key] (wR o a1 a2 a3 a4 a5 cI cZ fc fk fv fi fh md (bi dn) (bi pe) (bi so) (bi fl) lf ev fe) (fun r w' => ((dn = true ∧ r = -1) ∨ (dn = false ∧ slot = 0 ∧ t1 = true ∧ r = (match fnK (sec fk 1) m1 key with | none => -4 | some i => sec fv 1 i)) ∨ (dn = false ∧ slot = 1 ∧ t2 = true ∧ r = (match fnK (sec fk 2) m2 key with | none => -4 | some i => sec fv 2 i)) ∨ (dn = false ∧ ¬ (slot = 0 ∧ t1 = true) ∧ ¬ (slot = 1 ∧ t2 = true) ∧ r = -3)) ∧ w' = (wR o a1 a2 a3 a4 a5 cI cZ fc fk fv fi fh md (bi dn) (bi pe) (bi so) (bi fl) lf ev fe)) := by
  refine x_metI (lv := [(0, .ref o), (1, .int slot), (2, .int key)]) (by decide +kernel) rfl rfl (Nat.le_of_ble_eq_true rfl) rfl ?_
  intro X h hret
  refine x_aload_n h (pc' := 1) rfl d3_heldGet_0 0 rfl rfl ?_
  refine x_get h (pc' := 4) rfl (fun c q => List.mem_cons_of_mem _ (in3 c q)) 0 6 rfl rfl (by decide) (List.mem_cons_of_mem _ lk3_88) rfl rfl d3_heldGet_1 ?_
  refine x_if_eq (tg := 9) h (pc' := 7) rfl d3_heldGet_4 (by decide) (bi_0 _) (fun c4 => ?_) (fun c4 => ?_)
  · skip
    refine x_iload_n h (pc' := 10) rfl d3_heldGet_9 1 rfl rfl ?_
    -- isSlot
    refine x_sI h (pc' := 13) rfl [.int slot] (k3_isSlot l D cI cZ cS slot) d3_heldGet_10 1 (gd_S ml3_101 st3_isSlot ini3 cd3_isSlot) rfl ⟨rfl, rfl⟩ hd3_isSlot ⟨by decide, by decide⟩ ⟨Nat.zero_le _, Nat.zero_le _⟩ [] rfl rfl rfl (Nat.le_of_ble_eq_true rfl) rfl (fun rr10 ww10 pp10 ee10 => ?_)
    obtain ⟨rfl, rfl⟩ := pp10
    refine x_w (w' := (wR o a1 a2 a3 a4 a5 cI cZ fc fk fv fi fh md (bi dn) (bi pe) (bi so) (bi fl) lf ev fe)) rfl ?_
    refine x_if_eq (tg := 38) h (pc' := 16) rfl d3_heldGet_13 (by decide) (bi_0 _) (fun c13 => ?_) (fun c13 => ?_)
    · skip
      refine x_bipush (v := (-3)) h (pc' := 40) rfl d3_heldGet_38 (by decide) ?_
      exact hret _ _ _ _ d3_heldGet_40 rfl ⟨Or.inr (Or.inr (Or.inr ⟨c4, fun q => of_decide_eq_false c13 (Or.inl q.1), fun q => of_decide_eq_false c13 (Or.inr q.1), rfl⟩)), rfl⟩
    · skip
      rcases of_decide_eq_true (ne_f c13) with hs | hs
      · skip
        obtain rfl : slot = nI 0 := hs
        refine x_aload_n h (pc' := 17) rfl d3_heldGet_16 0 rfl rfl ?_
        refine x_get h (pc' := 20) rfl (fun c q => List.mem_cons_of_mem _ (in3 c q)) 0 4 rfl rfl (by decide) (List.mem_cons_of_mem _ lk3_22) rfl rfl d3_heldGet_17 ?_
        refine x_iload_n h (pc' := 21) rfl d3_heldGet_20 1 rfl rfl ?_
        refine x_iconst (v := (nI 1)) h (pc' := 22) rfl d3_heldGet_21 (by decide) ?_
        refine x_iadd (z := (nI (0 + 1))) h (pc' := 23) rfl d3_heldGet_22 (nI_add 0 1) ?_
        refine x_zald (v := (bi t1)) h (pc' := 24) rfl 5 1 rfl rfl (by omega) (by decide) d3_heldGet_23 u1 ?_
        refine x_if_eq (tg := 38) h (pc' := 27) rfl d3_heldGet_24 (by decide) (bi_0 _) (fun c24 => ?_) (fun c24 => ?_)
        · skip
          refine x_bipush (v := (-3)) h (pc' := 40) rfl d3_heldGet_38 (by decide) ?_
          exact hret _ _ _ _ d3_heldGet_40 rfl ⟨Or.inr (Or.inr (Or.inr ⟨c4, fun q => absurd (c24.symm.trans q.2) (by decide), fun q => absurd q.1 (by decide), rfl⟩)), rfl⟩
        · skip
          refine x_aload_n h (pc' := 28) rfl d3_heldGet_27 0 rfl rfl ?_
          refine x_iload_n h (pc' := 29) rfl d3_heldGet_28 1 rfl rfl ?_
          refine x_iconst (v := (nI 1)) h (pc' := 30) rfl d3_heldGet_29 (by decide) ?_
          refine x_iadd (z := (nI (0 + 1))) h (pc' := 31) rfl d3_heldGet_30 (nI_add 0 1) ?_
          refine x_iload_n h (pc' := 32) rfl d3_heldGet_31 2 rfl rfl ?_
          -- value
          refine x_vI h (pc' := 35) rfl [.int (nI (0 + 1)), .int key] (k3_value l D cI cZ cS o a1 a2 a3 a4 a5 fc fk fv fi fh md (bi dn) (bi pe) (bi so) (bi fl) lf ev fe 1 m1 (by omega) h1 e1 key) d3_heldGet_32 2 (gd_V ml3_95 im3_value se3_value ini3 cd3_value) rfl ⟨rfl, rfl⟩ hd3_value ⟨by decide, by decide⟩ ⟨Nat.zero_le _, Nat.zero_le _⟩ 0 rfl rfl rfl [0, 1, 2, 3, 4, 5] rfl rfl rfl (Nat.le_of_ble_eq_true rfl) rfl (fun rr32 ww32 pp32 ee32 => ?_)
          obtain ⟨rfl, rfl⟩ := pp32
          refine x_w (w' := (wR o a1 a2 a3 a4 a5 cI cZ fc fk fv fi fh md (bi dn) (bi pe) (bi so) (bi fl) lf ev fe)) rfl ?_
          refine x_goto (pc' := 40) h d3_heldGet_35 (by decide) ?_
          exact hret _ _ _ _ d3_heldGet_40 rfl ⟨Or.inr (Or.inl ⟨c4, rfl, ne_f c24, rfl⟩), rfl⟩
      · skip
        obtain rfl : slot = nI 1 := hs
        refine x_aload_n h (pc' := 17) rfl d3_heldGet_16 0 rfl rfl ?_
        refine x_get h (pc' := 20) rfl (fun c q => List.mem_cons_of_mem _ (in3 c q)) 0 4 rfl rfl (by decide) (List.mem_cons_of_mem _ lk3_22) rfl rfl d3_heldGet_17 ?_
        refine x_iload_n h (pc' := 21) rfl d3_heldGet_20 1 rfl rfl ?_
        refine x_iconst (v := (nI 1)) h (pc' := 22) rfl d3_heldGet_21 (by decide) ?_
        refine x_iadd (z := (nI (1 + 1))) h (pc' := 23) rfl d3_heldGet_22 (nI_add 1 1) ?_
        refine x_zald (v := (bi t2)) h (pc' := 24) rfl 5 1 rfl rfl (by omega) (by decide) d3_heldGet_23 u2 ?_
        refine x_if_eq (tg := 38) h (pc' := 27) rfl d3_heldGet_24 (by decide) (bi_0 _) (fun c24 => ?_) (fun c24 => ?_)
        · skip
          refine x_bipush (v := (-3)) h (pc' := 40) rfl d3_heldGet_38 (by decide) ?_
          exact hret _ _ _ _ d3_heldGet_40 rfl ⟨Or.inr (Or.inr (Or.inr ⟨c4, fun q => absurd q.1 (by decide), fun q => absurd (c24.symm.trans q.2) (by decide), rfl⟩)), rfl⟩
        · skip
          refine x_aload_n h (pc' := 28) rfl d3_heldGet_27 0 rfl rfl ?_
          refine x_iload_n h (pc' := 29) rfl d3_heldGet_28 1 rfl rfl ?_
          refine x_iconst (v := (nI 1)) h (pc' := 30) rfl d3_heldGet_29 (by decide) ?_
          refine x_iadd (z := (nI (1 + 1))) h (pc' := 31) rfl d3_heldGet_30 (nI_add 1 1) ?_
          refine x_iload_n h (pc' := 32) rfl d3_heldGet_31 2 rfl rfl ?_
          -- value
          refine x_vI h (pc' := 35) rfl [.int (nI (1 + 1)), .int key] (k3_value l D cI cZ cS o a1 a2 a3 a4 a5 fc fk fv fi fh md (bi dn) (bi pe) (bi so) (bi fl) lf ev fe 2 m2 (by omega) h2 e2 key) d3_heldGet_32 2 (gd_V ml3_95 im3_value se3_value ini3 cd3_value) rfl ⟨rfl, rfl⟩ hd3_value ⟨by decide, by decide⟩ ⟨Nat.zero_le _, Nat.zero_le _⟩ 0 rfl rfl rfl [0, 1, 2, 3, 4, 5] rfl rfl rfl (Nat.le_of_ble_eq_true rfl) rfl (fun rr32 ww32 pp32 ee32 => ?_)
          obtain ⟨rfl, rfl⟩ := pp32
          refine x_w (w' := (wR o a1 a2 a3 a4 a5 cI cZ fc fk fv fi fh md (bi dn) (bi pe) (bi so) (bi fl) lf ev fe)) rfl ?_
          refine x_goto (pc' := 40) h d3_heldGet_35 (by decide) ?_
          exact hret _ _ _ _ d3_heldGet_40 rfl ⟨Or.inr (Or.inr (Or.inl ⟨c4, rfl, ne_f c24, rfl⟩)), rfl⟩
  · skip
    refine x_iconst (v := (-1)) h (pc' := 8) rfl d3_heldGet_7 (by decide) ?_
    exact hret _ _ _ _ d3_heldGet_8 rfl ⟨Or.inl ⟨ne_f c4, rfl⟩, rfl⟩
set_option maxRecDepth 100000 in
set_option maxHeartbeats 4000000 in
theorem k3_heldNext (l : Launch) (D : va_G) (cI cZ cS : ClassId) (o a1 a2 a3 a4 a5 : Nat) (fc fk fv fi fh : Nat → Int32) (md lf ev fe : Int32) (dn pe so fl : Bool) (m1 m2 : Nat) (h1 : m1 ≤ 31) (h2 : m2 ≤ 31) (e1 : fc 1 = nI m1) (e2 : fc 2 = nI m2) (t1 t2 : Bool) (u1 : fh 1 = bi t1) (u2 : fh 2 = bi t2) (slot key : Int32) : CI l y3_heldNext w3_heldNext (rmd 1) D (TS3 cI cZ cS) [.ref o, .int slot, .int key] (wR o a1 a2 a3 a4 a5 cI cZ fc fk fv fi fh md (bi dn) (bi pe) (bi so) (bi fl) lf ev fe) (fun r w' => ((dn = true ∧ r = -1) ∨ (dn = false ∧ slot = 0 ∧ t1 = true ∧ r = (match lbK (sec fk 1) m1 key with | none => -4 | some i => sec fk 1 i)) ∨ (dn = false ∧ slot = 1 ∧ t2 = true ∧ r = (match lbK (sec fk 2) m2 key with | none => -4 | some i => sec fk 2 i)) ∨ (dn = false ∧ ¬ (slot = 0 ∧ t1 = true) ∧ ¬ (slot = 1 ∧ t2 = true) ∧ r = -3)) ∧ w' = (wR o a1 a2 a3 a4 a5 cI cZ fc fk fv fi fh md (bi dn) (bi pe) (bi so) (bi fl) lf ev fe)) := by
  refine x_metI (lv := [(0, .ref o), (1, .int slot), (2, .int key)]) (by decide +kernel) rfl rfl (Nat.le_of_ble_eq_true rfl) rfl ?_
  intro X h hret
  refine x_aload_n h (pc' := 1) rfl d3_heldNext_0 0 rfl rfl ?_
  refine x_get h (pc' := 4) rfl (fun c q => List.mem_cons_of_mem _ (in3 c q)) 0 6 rfl rfl (by decide) (List.mem_cons_of_mem _ lk3_88) rfl rfl d3_heldNext_1 ?_
  refine x_if_eq (tg := 9) h (pc' := 7) rfl d3_heldNext_4 (by decide) (bi_0 _) (fun c4 => ?_) (fun c4 => ?_)
  · skip
    refine x_iload_n h (pc' := 10) rfl d3_heldNext_9 1 rfl rfl ?_
    -- isSlot
    refine x_sI h (pc' := 13) rfl [.int slot] (k3_isSlot l D cI cZ cS slot) d3_heldNext_10 1 (gd_S ml3_101 st3_isSlot ini3 cd3_isSlot) rfl ⟨rfl, rfl⟩ hd3_isSlot ⟨by decide, by decide⟩ ⟨Nat.zero_le _, Nat.zero_le _⟩ [] rfl rfl rfl (Nat.le_of_ble_eq_true rfl) rfl (fun rr10 ww10 pp10 ee10 => ?_)
    obtain ⟨rfl, rfl⟩ := pp10
    refine x_w (w' := (wR o a1 a2 a3 a4 a5 cI cZ fc fk fv fi fh md (bi dn) (bi pe) (bi so) (bi fl) lf ev fe)) rfl ?_
    refine x_if_eq (tg := 38) h (pc' := 16) rfl d3_heldNext_13 (by decide) (bi_0 _) (fun c13 => ?_) (fun c13 => ?_)
    · skip
      refine x_bipush (v := (-3)) h (pc' := 40) rfl d3_heldNext_38 (by decide) ?_
      exact hret _ _ _ _ d3_heldNext_40 rfl ⟨Or.inr (Or.inr (Or.inr ⟨c4, fun q => of_decide_eq_false c13 (Or.inl q.1), fun q => of_decide_eq_false c13 (Or.inr q.1), rfl⟩)), rfl⟩
    · skip
      rcases of_decide_eq_true (ne_f c13) with hs | hs
      · skip
        obtain rfl : slot = nI 0 := hs
        refine x_aload_n h (pc' := 17) rfl d3_heldNext_16 0 rfl rfl ?_
        refine x_get h (pc' := 20) rfl (fun c q => List.mem_cons_of_mem _ (in3 c q)) 0 4 rfl rfl (by decide) (List.mem_cons_of_mem _ lk3_22) rfl rfl d3_heldNext_17 ?_
        refine x_iload_n h (pc' := 21) rfl d3_heldNext_20 1 rfl rfl ?_
        refine x_iconst (v := (nI 1)) h (pc' := 22) rfl d3_heldNext_21 (by decide) ?_
        refine x_iadd (z := (nI (0 + 1))) h (pc' := 23) rfl d3_heldNext_22 (nI_add 0 1) ?_
        refine x_zald (v := (bi t1)) h (pc' := 24) rfl 5 1 rfl rfl (by omega) (by decide) d3_heldNext_23 u1 ?_
        refine x_if_eq (tg := 38) h (pc' := 27) rfl d3_heldNext_24 (by decide) (bi_0 _) (fun c24 => ?_) (fun c24 => ?_)
        · skip
          refine x_bipush (v := (-3)) h (pc' := 40) rfl d3_heldNext_38 (by decide) ?_
          exact hret _ _ _ _ d3_heldNext_40 rfl ⟨Or.inr (Or.inr (Or.inr ⟨c4, fun q => absurd (c24.symm.trans q.2) (by decide), fun q => absurd q.1 (by decide), rfl⟩)), rfl⟩
        · skip
          refine x_aload_n h (pc' := 28) rfl d3_heldNext_27 0 rfl rfl ?_
          refine x_iload_n h (pc' := 29) rfl d3_heldNext_28 1 rfl rfl ?_
          refine x_iconst (v := (nI 1)) h (pc' := 30) rfl d3_heldNext_29 (by decide) ?_
          refine x_iadd (z := (nI (0 + 1))) h (pc' := 31) rfl d3_heldNext_30 (nI_add 0 1) ?_
          refine x_iload_n h (pc' := 32) rfl d3_heldNext_31 2 rfl rfl ?_
          -- least
          refine x_vI h (pc' := 35) rfl [.int (nI (0 + 1)), .int key] (k3_least l D cI cZ cS o a1 a2 a3 a4 a5 fc fk fv fi fh md (bi dn) (bi pe) (bi so) (bi fl) lf ev fe 1 m1 (by omega) h1 e1 key) d3_heldNext_32 2 (gd_V ml3_98 im3_least se3_least ini3 cd3_least) rfl ⟨rfl, rfl⟩ hd3_least ⟨by decide, by decide⟩ ⟨Nat.zero_le _, Nat.zero_le _⟩ 0 rfl rfl rfl [0, 1, 2, 3, 4, 5] rfl rfl rfl (Nat.le_of_ble_eq_true rfl) rfl (fun rr32 ww32 pp32 ee32 => ?_)
          obtain ⟨rfl, rfl⟩ := pp32
          refine x_w (w' := (wR o a1 a2 a3 a4 a5 cI cZ fc fk fv fi fh md (bi dn) (bi pe) (bi so) (bi fl) lf ev fe)) rfl ?_
          refine x_goto (pc' := 40) h d3_heldNext_35 (by decide) ?_
          exact hret _ _ _ _ d3_heldNext_40 rfl ⟨Or.inr (Or.inl ⟨c4, rfl, ne_f c24, rfl⟩), rfl⟩
      · skip
        obtain rfl : slot = nI 1 := hs
        refine x_aload_n h (pc' := 17) rfl d3_heldNext_16 0 rfl rfl ?_
        refine x_get h (pc' := 20) rfl (fun c q => List.mem_cons_of_mem _ (in3 c q)) 0 4 rfl rfl (by decide) (List.mem_cons_of_mem _ lk3_22) rfl rfl d3_heldNext_17 ?_
        refine x_iload_n h (pc' := 21) rfl d3_heldNext_20 1 rfl rfl ?_
        refine x_iconst (v := (nI 1)) h (pc' := 22) rfl d3_heldNext_21 (by decide) ?_
        refine x_iadd (z := (nI (1 + 1))) h (pc' := 23) rfl d3_heldNext_22 (nI_add 1 1) ?_
        refine x_zald (v := (bi t2)) h (pc' := 24) rfl 5 1 rfl rfl (by omega) (by decide) d3_heldNext_23 u2 ?_
        refine x_if_eq (tg := 38) h (pc' := 27) rfl d3_heldNext_24 (by decide) (bi_0 _) (fun c24 => ?_) (fun c24 => ?_)
        · skip
          refine x_bipush (v := (-3)) h (pc' := 40) rfl d3_heldNext_38 (by decide) ?_
          exact hret _ _ _ _ d3_heldNext_40 rfl ⟨Or.inr (Or.inr (Or.inr ⟨c4, fun q => absurd q.1 (by decide), fun q => absurd (c24.symm.trans q.2) (by decide), rfl⟩)), rfl⟩
        · skip
          refine x_aload_n h (pc' := 28) rfl d3_heldNext_27 0 rfl rfl ?_
          refine x_iload_n h (pc' := 29) rfl d3_heldNext_28 1 rfl rfl ?_
          refine x_iconst (v := (nI 1)) h (pc' := 30) rfl d3_heldNext_29 (by decide) ?_
          refine x_iadd (z := (nI (1 + 1))) h (pc' := 31) rfl d3_heldNext_30 (nI_add 1 1) ?_
          refine x_iload_n h (pc' := 32) rfl d3_heldNext_31 2 rfl rfl ?_
          -- least
          refine x_vI h (pc' := 35) rfl [.int (nI (1 + 1)), .int key] (k3_least l D cI cZ cS o a1 a2 a3 a4 a5 fc fk fv fi fh md (bi dn) (bi pe) (bi so) (bi fl) lf ev fe 2 m2 (by omega) h2 e2 key) d3_heldNext_32 2 (gd_V ml3_98 im3_least se3_least ini3 cd3_least) rfl ⟨rfl, rfl⟩ hd3_least ⟨by decide, by decide⟩ ⟨Nat.zero_le _, Nat.zero_le _⟩ 0 rfl rfl rfl [0, 1, 2, 3, 4, 5] rfl rfl rfl (Nat.le_of_ble_eq_true rfl) rfl (fun rr32 ww32 pp32 ee32 => ?_)
          obtain ⟨rfl, rfl⟩ := pp32
          refine x_w (w' := (wR o a1 a2 a3 a4 a5 cI cZ fc fk fv fi fh md (bi dn) (bi pe) (bi so) (bi fl) lf ev fe)) rfl ?_
          refine x_goto (pc' := 40) h d3_heldNext_35 (by decide) ?_
          exact hret _ _ _ _ d3_heldNext_40 rfl ⟨Or.inr (Or.inr (Or.inl ⟨c4, rfl, ne_f c24, rfl⟩)), rfl⟩
  · skip
    refine x_iconst (v := (-1)) h (pc' := 8) rfl d3_heldNext_7 (by decide) ?_
    exact hret _ _ _ _ d3_heldNext_8 rfl ⟨Or.inl ⟨ne_f c4, rfl⟩, rfl⟩
set_option maxRecDepth 100000 in
set_option maxHeartbeats 4000000 in
theorem k3_restart (l : Launch) (D : va_G) (cI cZ cS : ClassId) (o a1 a2 a3 a4 a5 : Nat) (fc fk fv fi fh : Nat → Int32) (md lf ev fe : Int32) (dn pe so fl : Bool) (n0 : Nat) (h0 : n0 ≤ 31) (e0 : fc 0 = nI n0) (n3 : Nat) (h3 : n3 ≤ 31) (e3 : fc 3 = nI n3) (ec : Bool) : CI l y3_restart w3_restart (rmd 1) D (TS3 cI cZ cS) [.ref o, .int (bi ec)] (wR o a1 a2 a3 a4 a5 cI cZ fc fk fv fi fh md (bi dn) (bi pe) (bi so) (bi fl) lf ev fe) (fun r w' => (dn = false ∧ r = -3 ∧ w' = (wR o a1 a2 a3 a4 a5 cI cZ fc fk fv fi fh md (bi dn) (bi pe) (bi so) (bi fl) lf ev fe)) ∨ (dn = true ∧ (pe && (fl || (so && ec))) = true ∧ r = nI n3 ∧ w' = (wR o a1 a2 a3 a4 a5 cI cZ (upd fc 0 (nI n3)) (va_cpy fk fk (31 * 3) (31 * 0) n3) (va_cpy fv fv (31 * 3) (31 * 0) n3) (va_cpy fi fi (31 * 3) (31 * 0) n3) (upd (upd fh 1 (nI 0)) 2 (nI 0)) md (nI 0) (nI 0) (bi so) (bi fl) lf ev fe)) ∨ (dn = true ∧ (pe && (fl || (so && ec))) = false ∧ r = nI n0 ∧ w' = (wR o a1 a2 a3 a4 a5 cI cZ fc fk fv fi (upd (upd fh 1 (nI 0)) 2 (nI 0)) md (nI 0) (nI 0) (bi so) (bi fl) lf ev fe))) := by
  refine x_metI (lv := [(0, .ref o), (1, .int (bi ec))]) (by decide +kernel) rfl rfl (Nat.le_of_ble_eq_true rfl) rfl ?_
  intro X h hret
  refine x_aload_n h (pc' := 1) rfl d3_restart_0 0 rfl rfl ?_
  refine x_get h (pc' := 4) rfl (fun c q => List.mem_cons_of_mem _ (in3 c q)) 0 6 rfl rfl (by decide) (List.mem_cons_of_mem _ lk3_88) rfl rfl d3_restart_1 ?_
  refine x_if_ne (tg := 10) h (pc' := 7) rfl d3_restart_4 (by decide) (bi_0 _) (fun c4 => ?_) (fun c4 => ?_)
  · skip
    refine x_aload_n h (pc' := 11) rfl d3_restart_10 0 rfl rfl ?_
    refine x_get h (pc' := 14) rfl (fun c q => List.mem_cons_of_mem _ (in3 c q)) 0 7 rfl rfl (by decide) (List.mem_cons_of_mem _ lk3_85) rfl rfl d3_restart_11 ?_
    refine x_if_eq (tg := 41) h (pc' := 17) rfl d3_restart_14 (by decide) (bi_0 _) (fun c14 => ?_) (fun c14 => ?_)
    · skip
      refine x_aload_n h (pc' := 42) rfl d3_restart_41 0 rfl rfl ?_
      refine x_iconst (v := (nI 0)) h (pc' := 43) rfl d3_restart_42 (by decide) ?_
      refine x_put (w' := (wR o a1 a2 a3 a4 a5 cI cZ fc fk fv fi fh md (bi dn) (nI 0) (bi so) (bi fl) lf ev fe)) (ty := .boolean) h (pc' := 46) rfl (fun c q => List.mem_cons_of_mem _ (in3 c q)) ok3 nm3 0 7 rfl rfl (by decide) (List.mem_cons_of_mem _ lk3_85) rfl rfl rfl rfl rfl (Nat.le_of_ble_eq_true rfl) rfl d3_restart_43 ?_
      refine x_aload_n h (pc' := 47) rfl d3_restart_46 0 rfl rfl ?_
      refine x_iconst (v := (nI 0)) h (pc' := 48) rfl d3_restart_47 (by decide) ?_
      refine x_put (w' := (wR o a1 a2 a3 a4 a5 cI cZ fc fk fv fi fh md (nI 0) (nI 0) (bi so) (bi fl) lf ev fe)) (ty := .boolean) h (pc' := 51) rfl (fun c q => List.mem_cons_of_mem _ (in3 c q)) ok3 nm3 0 6 rfl rfl (by decide) (List.mem_cons_of_mem _ lk3_88) rfl rfl rfl rfl rfl (Nat.le_of_ble_eq_true rfl) rfl d3_restart_48 ?_
      refine x_aload_n h (pc' := 52) rfl d3_restart_51 0 rfl rfl ?_
      refine x_get h (pc' := 55) rfl (fun c q => List.mem_cons_of_mem _ (in3 c q)) 0 4 rfl rfl (by decide) (List.mem_cons_of_mem _ lk3_22) rfl rfl d3_restart_52 ?_
      refine x_iconst (v := (nI 1)) h (pc' := 56) rfl d3_restart_55 (by decide) ?_
      refine x_iconst (v := (nI 0)) h (pc' := 57) rfl d3_restart_56 (by decide) ?_
      refine x_zast (w' := (wR o a1 a2 a3 a4 a5 cI cZ fc fk fv fi (upd fh 1 (nI 0)) md (nI 0) (nI 0) (bi so) (bi fl) lf ev fe)) h (pc' := 58) rfl 5 1 rfl rfl (by omega) (by decide) d3_restart_57 rfl rfl ?_
      refine x_aload_n h (pc' := 59) rfl d3_restart_58 0 rfl rfl ?_
      refine x_get h (pc' := 62) rfl (fun c q => List.mem_cons_of_mem _ (in3 c q)) 0 4 rfl rfl (by decide) (List.mem_cons_of_mem _ lk3_22) rfl rfl d3_restart_59 ?_
      refine x_iconst (v := (nI 2)) h (pc' := 63) rfl d3_restart_62 (by decide) ?_
      refine x_iconst (v := (nI 0)) h (pc' := 64) rfl d3_restart_63 (by decide) ?_
      refine x_zast (w' := (wR o a1 a2 a3 a4 a5 cI cZ fc fk fv fi (upd (upd fh 1 (nI 0)) 2 (nI 0)) md (nI 0) (nI 0) (bi so) (bi fl) lf ev fe)) h (pc' := 65) rfl 5 1 rfl rfl (by omega) (by decide) d3_restart_64 rfl rfl ?_
      refine x_aload_n h (pc' := 66) rfl d3_restart_65 0 rfl rfl ?_
      refine x_get h (pc' := 69) rfl (fun c q => List.mem_cons_of_mem _ (in3 c q)) 0 0 rfl rfl (by decide) (List.mem_cons_of_mem _ lk3_7) rfl rfl d3_restart_66 ?_
      refine x_iconst (v := (nI 0)) h (pc' := 70) rfl d3_restart_69 (by decide) ?_
      refine x_iald (v := (nI n0)) h (pc' := 71) rfl 1 0 rfl rfl (by omega) (by decide) d3_restart_70 e0 ?_
      exact hret _ _ _ _ d3_restart_71 rfl (Or.inr (Or.inr ⟨ne_f c4, by first | (rw [c14]; rfl) | (rw [ne_f c14, c21, c28]; rfl) | (rw [ne_f c14, c21, c32, Bool.and_false]; rfl), rfl, rfl⟩))
    · skip
      refine x_aload_n h (pc' := 18) rfl d3_restart_17 0 rfl rfl ?_
      refine x_get h (pc' := 21) rfl (fun c q => List.mem_cons_of_mem _ (in3 c q)) 0 9 rfl rfl (by decide) (List.mem_cons_of_mem _ lk3_82) rfl rfl d3_restart_18 ?_
      refine x_if_ne (tg := 35) h (pc' := 24) rfl d3_restart_21 (by decide) (bi_0 _) (fun c21 => ?_) (fun c21 => ?_)
      · skip
        refine x_aload_n h (pc' := 36) rfl d3_restart_35 0 rfl rfl ?_
        refine x_iconst (v := (nI 3)) h (pc' := 37) rfl d3_restart_36 (by decide) ?_
        refine x_iconst (v := (nI 0)) h (pc' := 38) rfl d3_restart_37 (by decide) ?_
        -- copy
        refine x_vV h (pc' := 41) rfl [.int (nI 3), .int (nI 0)] (k3_copy l D cI cZ cS o a1 a2 a3 a4 a5 fc fk fv fi fh md (bi dn) (bi pe) (bi so) (bi fl) lf ev fe 3 n3 (by omega) h3 e3 0 (by omega) (by omega)) d3_restart_38 2 (gd_V ml3_74 im3_copy se3_copy ini3 cd3_copy) rfl ⟨rfl, rfl⟩ hd3_copy ⟨by decide, by decide⟩ ⟨Nat.zero_le _, Nat.zero_le _⟩ 0 rfl rfl rfl [0, 1, 2, 3, 4, 5] rfl rfl rfl (Nat.le_of_ble_eq_true rfl) rfl (fun ww38 pp38 ee38 => ?_)
        subst pp38
        refine x_w (w' := (wR o a1 a2 a3 a4 a5 cI cZ (upd fc 0 (nI n3)) (va_cpy fk fk (31 * 3) (31 * 0) n3) (va_cpy fv fv (31 * 3) (31 * 0) n3) (va_cpy fi fi (31 * 3) (31 * 0) n3) fh md (bi dn) (bi pe) (bi so) (bi fl) lf ev fe)) rfl ?_
        refine x_aload_n h (pc' := 42) rfl d3_restart_41 0 rfl rfl ?_
        refine x_iconst (v := (nI 0)) h (pc' := 43) rfl d3_restart_42 (by decide) ?_
        refine x_put (w' := (wR o a1 a2 a3 a4 a5 cI cZ (upd fc 0 (nI n3)) (va_cpy fk fk (31 * 3) (31 * 0) n3) (va_cpy fv fv (31 * 3) (31 * 0) n3) (va_cpy fi fi (31 * 3) (31 * 0) n3) fh md (bi dn) (nI 0) (bi so) (bi fl) lf ev fe)) (ty := .boolean) h (pc' := 46) rfl (fun c q => List.mem_cons_of_mem _ (in3 c q)) ok3 nm3 0 7 rfl rfl (by decide) (List.mem_cons_of_mem _ lk3_85) rfl rfl rfl rfl rfl (Nat.le_of_ble_eq_true rfl) rfl d3_restart_43 ?_
        refine x_aload_n h (pc' := 47) rfl d3_restart_46 0 rfl rfl ?_
        refine x_iconst (v := (nI 0)) h (pc' := 48) rfl d3_restart_47 (by decide) ?_
        refine x_put (w' := (wR o a1 a2 a3 a4 a5 cI cZ (upd fc 0 (nI n3)) (va_cpy fk fk (31 * 3) (31 * 0) n3) (va_cpy fv fv (31 * 3) (31 * 0) n3) (va_cpy fi fi (31 * 3) (31 * 0) n3) fh md (nI 0) (nI 0) (bi so) (bi fl) lf ev fe)) (ty := .boolean) h (pc' := 51) rfl (fun c q => List.mem_cons_of_mem _ (in3 c q)) ok3 nm3 0 6 rfl rfl (by decide) (List.mem_cons_of_mem _ lk3_88) rfl rfl rfl rfl rfl (Nat.le_of_ble_eq_true rfl) rfl d3_restart_48 ?_
        refine x_aload_n h (pc' := 52) rfl d3_restart_51 0 rfl rfl ?_
        refine x_get h (pc' := 55) rfl (fun c q => List.mem_cons_of_mem _ (in3 c q)) 0 4 rfl rfl (by decide) (List.mem_cons_of_mem _ lk3_22) rfl rfl d3_restart_52 ?_
        refine x_iconst (v := (nI 1)) h (pc' := 56) rfl d3_restart_55 (by decide) ?_
        refine x_iconst (v := (nI 0)) h (pc' := 57) rfl d3_restart_56 (by decide) ?_
        refine x_zast (w' := (wR o a1 a2 a3 a4 a5 cI cZ (upd fc 0 (nI n3)) (va_cpy fk fk (31 * 3) (31 * 0) n3) (va_cpy fv fv (31 * 3) (31 * 0) n3) (va_cpy fi fi (31 * 3) (31 * 0) n3) (upd fh 1 (nI 0)) md (nI 0) (nI 0) (bi so) (bi fl) lf ev fe)) h (pc' := 58) rfl 5 1 rfl rfl (by omega) (by decide) d3_restart_57 rfl rfl ?_
        refine x_aload_n h (pc' := 59) rfl d3_restart_58 0 rfl rfl ?_
        refine x_get h (pc' := 62) rfl (fun c q => List.mem_cons_of_mem _ (in3 c q)) 0 4 rfl rfl (by decide) (List.mem_cons_of_mem _ lk3_22) rfl rfl d3_restart_59 ?_
        refine x_iconst (v := (nI 2)) h (pc' := 63) rfl d3_restart_62 (by decide) ?_
        refine x_iconst (v := (nI 0)) h (pc' := 64) rfl d3_restart_63 (by decide) ?_
        refine x_zast (w' := (wR o a1 a2 a3 a4 a5 cI cZ (upd fc 0 (nI n3)) (va_cpy fk fk (31 * 3) (31 * 0) n3) (va_cpy fv fv (31 * 3) (31 * 0) n3) (va_cpy fi fi (31 * 3) (31 * 0) n3) (upd (upd fh 1 (nI 0)) 2 (nI 0)) md (nI 0) (nI 0) (bi so) (bi fl) lf ev fe)) h (pc' := 65) rfl 5 1 rfl rfl (by omega) (by decide) d3_restart_64 rfl rfl ?_
        refine x_aload_n h (pc' := 66) rfl d3_restart_65 0 rfl rfl ?_
        refine x_get h (pc' := 69) rfl (fun c q => List.mem_cons_of_mem _ (in3 c q)) 0 0 rfl rfl (by decide) (List.mem_cons_of_mem _ lk3_7) rfl rfl d3_restart_66 ?_
        refine x_iconst (v := (nI 0)) h (pc' := 70) rfl d3_restart_69 (by decide) ?_
        refine x_iald (v := (nI n3)) h (pc' := 71) rfl 1 0 rfl rfl (by omega) (by decide) d3_restart_70 pk_us ?_
        exact hret _ _ _ _ d3_restart_71 rfl (Or.inr (Or.inl ⟨ne_f c4, by rw [ne_f c14]; first | (rw [ne_f c21]; rfl) | (rw [ne_f c28, ne_f c32, Bool.and_self, Bool.or_true]; rfl), rfl, rfl⟩))
      · skip
        refine x_aload_n h (pc' := 25) rfl d3_restart_24 0 rfl rfl ?_
        refine x_get h (pc' := 28) rfl (fun c q => List.mem_cons_of_mem _ (in3 c q)) 0 8 rfl rfl (by decide) (List.mem_cons_of_mem _ lk3_78) rfl rfl d3_restart_25 ?_
        refine x_if_eq (tg := 41) h (pc' := 31) rfl d3_restart_28 (by decide) (bi_0 _) (fun c28 => ?_) (fun c28 => ?_)
        · skip
          refine x_aload_n h (pc' := 42) rfl d3_restart_41 0 rfl rfl ?_
          refine x_iconst (v := (nI 0)) h (pc' := 43) rfl d3_restart_42 (by decide) ?_
          refine x_put (w' := (wR o a1 a2 a3 a4 a5 cI cZ fc fk fv fi fh md (bi dn) (nI 0) (bi so) (bi fl) lf ev fe)) (ty := .boolean) h (pc' := 46) rfl (fun c q => List.mem_cons_of_mem _ (in3 c q)) ok3 nm3 0 7 rfl rfl (by decide) (List.mem_cons_of_mem _ lk3_85) rfl rfl rfl rfl rfl (Nat.le_of_ble_eq_true rfl) rfl d3_restart_43 ?_
          refine x_aload_n h (pc' := 47) rfl d3_restart_46 0 rfl rfl ?_
          refine x_iconst (v := (nI 0)) h (pc' := 48) rfl d3_restart_47 (by decide) ?_
          refine x_put (w' := (wR o a1 a2 a3 a4 a5 cI cZ fc fk fv fi fh md (nI 0) (nI 0) (bi so) (bi fl) lf ev fe)) (ty := .boolean) h (pc' := 51) rfl (fun c q => List.mem_cons_of_mem _ (in3 c q)) ok3 nm3 0 6 rfl rfl (by decide) (List.mem_cons_of_mem _ lk3_88) rfl rfl rfl rfl rfl (Nat.le_of_ble_eq_true rfl) rfl d3_restart_48 ?_
          refine x_aload_n h (pc' := 52) rfl d3_restart_51 0 rfl rfl ?_
          refine x_get h (pc' := 55) rfl (fun c q => List.mem_cons_of_mem _ (in3 c q)) 0 4 rfl rfl (by decide) (List.mem_cons_of_mem _ lk3_22) rfl rfl d3_restart_52 ?_
          refine x_iconst (v := (nI 1)) h (pc' := 56) rfl d3_restart_55 (by decide) ?_
          refine x_iconst (v := (nI 0)) h (pc' := 57) rfl d3_restart_56 (by decide) ?_
          refine x_zast (w' := (wR o a1 a2 a3 a4 a5 cI cZ fc fk fv fi (upd fh 1 (nI 0)) md (nI 0) (nI 0) (bi so) (bi fl) lf ev fe)) h (pc' := 58) rfl 5 1 rfl rfl (by omega) (by decide) d3_restart_57 rfl rfl ?_
          refine x_aload_n h (pc' := 59) rfl d3_restart_58 0 rfl rfl ?_
          refine x_get h (pc' := 62) rfl (fun c q => List.mem_cons_of_mem _ (in3 c q)) 0 4 rfl rfl (by decide) (List.mem_cons_of_mem _ lk3_22) rfl rfl d3_restart_59 ?_
          refine x_iconst (v := (nI 2)) h (pc' := 63) rfl d3_restart_62 (by decide) ?_
          refine x_iconst (v := (nI 0)) h (pc' := 64) rfl d3_restart_63 (by decide) ?_
          refine x_zast (w' := (wR o a1 a2 a3 a4 a5 cI cZ fc fk fv fi (upd (upd fh 1 (nI 0)) 2 (nI 0)) md (nI 0) (nI 0) (bi so) (bi fl) lf ev fe)) h (pc' := 65) rfl 5 1 rfl rfl (by omega) (by decide) d3_restart_64 rfl rfl ?_
          refine x_aload_n h (pc' := 66) rfl d3_restart_65 0 rfl rfl ?_
          refine x_get h (pc' := 69) rfl (fun c q => List.mem_cons_of_mem _ (in3 c q)) 0 0 rfl rfl (by decide) (List.mem_cons_of_mem _ lk3_7) rfl rfl d3_restart_66 ?_
          refine x_iconst (v := (nI 0)) h (pc' := 70) rfl d3_restart_69 (by decide) ?_
          refine x_iald (v := (nI n0)) h (pc' := 71) rfl 1 0 rfl rfl (by omega) (by decide) d3_restart_70 e0 ?_
          exact hret _ _ _ _ d3_restart_71 rfl (Or.inr (Or.inr ⟨ne_f c4, by first | (rw [c14]; rfl) | (rw [ne_f c14, c21, c28]; rfl) | (rw [ne_f c14, c21, c32, Bool.and_false]; rfl), rfl, rfl⟩))
        · skip
          refine x_iload_n h (pc' := 32) rfl d3_restart_31 1 rfl rfl ?_
          refine x_if_eq (tg := 41) h (pc' := 35) rfl d3_restart_32 (by decide) (bi_0 _) (fun c32 => ?_) (fun c32 => ?_)
          · skip
            refine x_aload_n h (pc' := 42) rfl d3_restart_41 0 rfl rfl ?_
            refine x_iconst (v := (nI 0)) h (pc' := 43) rfl d3_restart_42 (by decide) ?_
            refine x_put (w' := (wR o a1 a2 a3 a4 a5 cI cZ fc fk fv fi fh md (bi dn) (nI 0) (bi so) (bi fl) lf ev fe)) (ty := .boolean) h (pc' := 46) rfl (fun c q => List.mem_cons_of_mem _ (in3 c q)) ok3 nm3 0 7 rfl rfl (by decide) (List.mem_cons_of_mem _ lk3_85) rfl rfl rfl rfl rfl (Nat.le_of_ble_eq_true rfl) rfl d3_restart_43 ?_
            refine x_aload_n h (pc' := 47) rfl d3_restart_46 0 rfl rfl ?_
            refine x_iconst (v := (nI 0)) h (pc' := 48) rfl d3_restart_47 (by decide) ?_
            refine x_put (w' := (wR o a1 a2 a3 a4 a5 cI cZ fc fk fv fi fh md (nI 0) (nI 0) (bi so) (bi fl) lf ev fe)) (ty := .boolean) h (pc' := 51) rfl (fun c q => List.mem_cons_of_mem _ (in3 c q)) ok3 nm3 0 6 rfl rfl (by decide) (List.mem_cons_of_mem _ lk3_88) rfl rfl rfl rfl rfl (Nat.le_of_ble_eq_true rfl) rfl d3_restart_48 ?_
            refine x_aload_n h (pc' := 52) rfl d3_restart_51 0 rfl rfl ?_
            refine x_get h (pc' := 55) rfl (fun c q => List.mem_cons_of_mem _ (in3 c q)) 0 4 rfl rfl (by decide) (List.mem_cons_of_mem _ lk3_22) rfl rfl d3_restart_52 ?_
            refine x_iconst (v := (nI 1)) h (pc' := 56) rfl d3_restart_55 (by decide) ?_
            refine x_iconst (v := (nI 0)) h (pc' := 57) rfl d3_restart_56 (by decide) ?_
            refine x_zast (w' := (wR o a1 a2 a3 a4 a5 cI cZ fc fk fv fi (upd fh 1 (nI 0)) md (nI 0) (nI 0) (bi so) (bi fl) lf ev fe)) h (pc' := 58) rfl 5 1 rfl rfl (by omega) (by decide) d3_restart_57 rfl rfl ?_
            refine x_aload_n h (pc' := 59) rfl d3_restart_58 0 rfl rfl ?_
            refine x_get h (pc' := 62) rfl (fun c q => List.mem_cons_of_mem _ (in3 c q)) 0 4 rfl rfl (by decide) (List.mem_cons_of_mem _ lk3_22) rfl rfl d3_restart_59 ?_
            refine x_iconst (v := (nI 2)) h (pc' := 63) rfl d3_restart_62 (by decide) ?_
            refine x_iconst (v := (nI 0)) h (pc' := 64) rfl d3_restart_63 (by decide) ?_
            refine x_zast (w' := (wR o a1 a2 a3 a4 a5 cI cZ fc fk fv fi (upd (upd fh 1 (nI 0)) 2 (nI 0)) md (nI 0) (nI 0) (bi so) (bi fl) lf ev fe)) h (pc' := 65) rfl 5 1 rfl rfl (by omega) (by decide) d3_restart_64 rfl rfl ?_
            refine x_aload_n h (pc' := 66) rfl d3_restart_65 0 rfl rfl ?_
            refine x_get h (pc' := 69) rfl (fun c q => List.mem_cons_of_mem _ (in3 c q)) 0 0 rfl rfl (by decide) (List.mem_cons_of_mem _ lk3_7) rfl rfl d3_restart_66 ?_
            refine x_iconst (v := (nI 0)) h (pc' := 70) rfl d3_restart_69 (by decide) ?_
            refine x_iald (v := (nI n0)) h (pc' := 71) rfl 1 0 rfl rfl (by omega) (by decide) d3_restart_70 e0 ?_
            exact hret _ _ _ _ d3_restart_71 rfl (Or.inr (Or.inr ⟨ne_f c4, by first | (rw [c14]; rfl) | (rw [ne_f c14, c21, c28]; rfl) | (rw [ne_f c14, c21, c32, Bool.and_false]; rfl), rfl, rfl⟩))
          · skip
            refine x_aload_n h (pc' := 36) rfl d3_restart_35 0 rfl rfl ?_
            refine x_iconst (v := (nI 3)) h (pc' := 37) rfl d3_restart_36 (by decide) ?_
            refine x_iconst (v := (nI 0)) h (pc' := 38) rfl d3_restart_37 (by decide) ?_
            -- copy
            refine x_vV h (pc' := 41) rfl [.int (nI 3), .int (nI 0)] (k3_copy l D cI cZ cS o a1 a2 a3 a4 a5 fc fk fv fi fh md (bi dn) (bi pe) (bi so) (bi fl) lf ev fe 3 n3 (by omega) h3 e3 0 (by omega) (by omega)) d3_restart_38 2 (gd_V ml3_74 im3_copy se3_copy ini3 cd3_copy) rfl ⟨rfl, rfl⟩ hd3_copy ⟨by decide, by decide⟩ ⟨Nat.zero_le _, Nat.zero_le _⟩ 0 rfl rfl rfl [0, 1, 2, 3, 4, 5] rfl rfl rfl (Nat.le_of_ble_eq_true rfl) rfl (fun ww38 pp38 ee38 => ?_)
            subst pp38
            refine x_w (w' := (wR o a1 a2 a3 a4 a5 cI cZ (upd fc 0 (nI n3)) (va_cpy fk fk (31 * 3) (31 * 0) n3) (va_cpy fv fv (31 * 3) (31 * 0) n3) (va_cpy fi fi (31 * 3) (31 * 0) n3) fh md (bi dn) (bi pe) (bi so) (bi fl) lf ev fe)) rfl ?_
            refine x_aload_n h (pc' := 42) rfl d3_restart_41 0 rfl rfl ?_
            refine x_iconst (v := (nI 0)) h (pc' := 43) rfl d3_restart_42 (by decide) ?_
            refine x_put (w' := (wR o a1 a2 a3 a4 a5 cI cZ (upd fc 0 (nI n3)) (va_cpy fk fk (31 * 3) (31 * 0) n3) (va_cpy fv fv (31 * 3) (31 * 0) n3) (va_cpy fi fi (31 * 3) (31 * 0) n3) fh md (bi dn) (nI 0) (bi so) (bi fl) lf ev fe)) (ty := .boolean) h (pc' := 46) rfl (fun c q => List.mem_cons_of_mem _ (in3 c q)) ok3 nm3 0 7 rfl rfl (by decide) (List.mem_cons_of_mem _ lk3_85) rfl rfl rfl rfl rfl (Nat.le_of_ble_eq_true rfl) rfl d3_restart_43 ?_
            refine x_aload_n h (pc' := 47) rfl d3_restart_46 0 rfl rfl ?_
            refine x_iconst (v := (nI 0)) h (pc' := 48) rfl d3_restart_47 (by decide) ?_
            refine x_put (w' := (wR o a1 a2 a3 a4 a5 cI cZ (upd fc 0 (nI n3)) (va_cpy fk fk (31 * 3) (31 * 0) n3) (va_cpy fv fv (31 * 3) (31 * 0) n3) (va_cpy fi fi (31 * 3) (31 * 0) n3) fh md (nI 0) (nI 0) (bi so) (bi fl) lf ev fe)) (ty := .boolean) h (pc' := 51) rfl (fun c q => List.mem_cons_of_mem _ (in3 c q)) ok3 nm3 0 6 rfl rfl (by decide) (List.mem_cons_of_mem _ lk3_88) rfl rfl rfl rfl rfl (Nat.le_of_ble_eq_true rfl) rfl d3_restart_48 ?_
            refine x_aload_n h (pc' := 52) rfl d3_restart_51 0 rfl rfl ?_
            refine x_get h (pc' := 55) rfl (fun c q => List.mem_cons_of_mem _ (in3 c q)) 0 4 rfl rfl (by decide) (List.mem_cons_of_mem _ lk3_22) rfl rfl d3_restart_52 ?_
            refine x_iconst (v := (nI 1)) h (pc' := 56) rfl d3_restart_55 (by decide) ?_
            refine x_iconst (v := (nI 0)) h (pc' := 57) rfl d3_restart_56 (by decide) ?_
            refine x_zast (w' := (wR o a1 a2 a3 a4 a5 cI cZ (upd fc 0 (nI n3)) (va_cpy fk fk (31 * 3) (31 * 0) n3) (va_cpy fv fv (31 * 3) (31 * 0) n3) (va_cpy fi fi (31 * 3) (31 * 0) n3) (upd fh 1 (nI 0)) md (nI 0) (nI 0) (bi so) (bi fl) lf ev fe)) h (pc' := 58) rfl 5 1 rfl rfl (by omega) (by decide) d3_restart_57 rfl rfl ?_
            refine x_aload_n h (pc' := 59) rfl d3_restart_58 0 rfl rfl ?_
            refine x_get h (pc' := 62) rfl (fun c q => List.mem_cons_of_mem _ (in3 c q)) 0 4 rfl rfl (by decide) (List.mem_cons_of_mem _ lk3_22) rfl rfl d3_restart_59 ?_
            refine x_iconst (v := (nI 2)) h (pc' := 63) rfl d3_restart_62 (by decide) ?_
            refine x_iconst (v := (nI 0)) h (pc' := 64) rfl d3_restart_63 (by decide) ?_
            refine x_zast (w' := (wR o a1 a2 a3 a4 a5 cI cZ (upd fc 0 (nI n3)) (va_cpy fk fk (31 * 3) (31 * 0) n3) (va_cpy fv fv (31 * 3) (31 * 0) n3) (va_cpy fi fi (31 * 3) (31 * 0) n3) (upd (upd fh 1 (nI 0)) 2 (nI 0)) md (nI 0) (nI 0) (bi so) (bi fl) lf ev fe)) h (pc' := 65) rfl 5 1 rfl rfl (by omega) (by decide) d3_restart_64 rfl rfl ?_
            refine x_aload_n h (pc' := 66) rfl d3_restart_65 0 rfl rfl ?_
            refine x_get h (pc' := 69) rfl (fun c q => List.mem_cons_of_mem _ (in3 c q)) 0 0 rfl rfl (by decide) (List.mem_cons_of_mem _ lk3_7) rfl rfl d3_restart_66 ?_
            refine x_iconst (v := (nI 0)) h (pc' := 70) rfl d3_restart_69 (by decide) ?_
            refine x_iald (v := (nI n3)) h (pc' := 71) rfl 1 0 rfl rfl (by omega) (by decide) d3_restart_70 pk_us ?_
            exact hret _ _ _ _ d3_restart_71 rfl (Or.inr (Or.inl ⟨ne_f c4, by rw [ne_f c14]; first | (rw [ne_f c21]; rfl) | (rw [ne_f c28, ne_f c32, Bool.and_self, Bool.or_true]; rfl), rfl, rfl⟩))
  · skip
    refine x_bipush (v := (-3)) h (pc' := 9) rfl d3_restart_7 (by decide) ?_
    exact hret _ _ _ _ d3_restart_9 rfl (Or.inl ⟨c4, rfl, rfl⟩)
