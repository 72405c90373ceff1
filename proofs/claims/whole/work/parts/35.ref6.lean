set_option maxRecDepth 100000 in
set_option maxHeartbeats 4000000 in
theorem k3_isSlot (l : Launch) (D : va_G) (cI cZ cS : ClassId) (slot : Int32) : CI l y3_isSlot w3_isSlot (rmd 0) D (TS3 cI cZ cS) [.int slot] [] (fun r w' => r = bi (decide (slot = 0 ∨ slot = 1)) ∧ w' = []) := by
  refine x_metZ (lv := [(0, .int slot)]) (by decide +kernel) rfl rfl (Nat.le_of_ble_eq_true rfl) rfl ?_
  intro X h hret
  refine x_iload_n h (pc' := 1) rfl d3_isSlot_0 0 rfl rfl ?_
  refine x_if_eq (tg := 9) h (pc' := 4) rfl d3_isSlot_1 (by decide) Iff.rfl (fun c1 => ?_) (fun c1 => ?_)
  · skip
    refine x_iconst (v := (nI 1)) h (pc' := 10) rfl d3_isSlot_9 (by decide) ?_
    refine x_goto (pc' := 14) h d3_isSlot_10 (by decide) ?_
    exact hret _ _ _ _ rfl d3_isSlot_14 rfl ⟨bi1 (decide_eq_true (by first | exact Or.inl c1 | exact Or.inr c6)), rfl⟩
  · skip
    refine x_iload_n h (pc' := 5) rfl d3_isSlot_4 0 rfl rfl ?_
    refine x_iconst (v := (nI 1)) h (pc' := 6) rfl d3_isSlot_5 (by decide) ?_
    refine x_icmp_ne (tg := 13) h (pc' := 9) rfl d3_isSlot_6 (by decide) Iff.rfl (fun c6 => ?_) (fun c6 => ?_)
    · skip
      refine x_iconst (v := (nI 0)) h (pc' := 14) rfl d3_isSlot_13 (by decide) ?_
      exact hret _ _ _ _ rfl d3_isSlot_14 rfl ⟨bi0 (decide_eq_false (by rintro (q | q) <;> first | exact c1 q | exact c6 q)), rfl⟩
    · skip
      refine x_iconst (v := (nI 1)) h (pc' := 10) rfl d3_isSlot_9 (by decide) ?_
      refine x_goto (pc' := 14) h d3_isSlot_10 (by decide) ?_
      exact hret _ _ _ _ rfl d3_isSlot_14 rfl ⟨bi1 (decide_eq_true (by first | exact Or.inl c1 | exact Or.inr c6)), rfl⟩
set_option maxRecDepth 100000 in
set_option maxHeartbeats 4000000 in
theorem k3_cut (l : Launch) (D : va_G) (cI cZ cS : ClassId) (o a1 a2 a3 a4 a5 : Nat) (fc fk fv fi fh : Nat → Int32) (md lf ev fe : Int32) (dn pe so fl : Bool) (n : Int32) : CI l y3_cut w3_cut (rmd 0) D (TS3 cI cZ cS) [.ref o, .int n] (wR o a1 a2 a3 a4 a5 cI cZ fc fk fv fi fh md (bi dn) (bi pe) (bi so) (bi fl) lf ev fe) (fun r w' => (¬ -1 ≤ n ∧ r = 0 ∧ w' = (wR o a1 a2 a3 a4 a5 cI cZ fc fk fv fi fh md (bi dn) (bi pe) (bi so) (bi fl) lf ev fe)) ∨ (-1 ≤ n ∧ r = 1 ∧ w' = (wR o a1 a2 a3 a4 a5 cI cZ fc fk fv fi fh md (bi dn) (bi pe) (bi so) (bi fl) n ev fe))) := by
  refine x_metZ (lv := [(0, .ref o), (1, .int n)]) (by decide +kernel) rfl rfl (Nat.le_of_ble_eq_true rfl) rfl ?_
  intro X h hret
  refine x_iload_n h (pc' := 1) rfl d3_cut_0 1 rfl rfl ?_
  refine x_iconst (v := (-1)) h (pc' := 2) rfl d3_cut_1 (by decide) ?_
  refine x_icmp_ge (tg := 7) h (pc' := 5) rfl d3_cut_2 (by decide) Iff.rfl (fun c2 => ?_) (fun c2 => ?_)
  · skip
    refine x_aload_n h (pc' := 8) rfl d3_cut_7 0 rfl rfl ?_
    refine x_iload_n h (pc' := 9) rfl d3_cut_8 1 rfl rfl ?_
    refine x_put (w' := (wR o a1 a2 a3 a4 a5 cI cZ fc fk fv fi fh md (bi dn) (bi pe) (bi so) (bi fl) n ev fe)) (ty := .int) h (pc' := 12) rfl (fun c q => List.mem_cons_of_mem _ (in3 c q)) ok3 nm3 0 10 rfl rfl (by decide) (List.mem_cons_of_mem _ lk3_26) rfl rfl rfl rfl rfl (Nat.le_of_ble_eq_true rfl) rfl d3_cut_9 ?_
    refine x_iconst (v := (nI 1)) h (pc' := 13) rfl d3_cut_12 (by decide) ?_
    exact hret _ _ _ _ rfl d3_cut_13 rfl (Or.inr ⟨c2, rfl, rfl⟩)
  · skip
    refine x_iconst (v := (nI 0)) h (pc' := 6) rfl d3_cut_5 (by decide) ?_
    exact hret _ _ _ _ rfl d3_cut_6 rfl (Or.inl ⟨c2, rfl, rfl⟩)
set_option maxRecDepth 100000 in
set_option maxHeartbeats 4000000 in
theorem k3_get (l : Launch) (D : va_G) (cI cZ cS : ClassId) (o a1 a2 a3 a4 a5 : Nat) (fc fk fv fi fh : Nat → Int32) (md lf ev fe : Int32) (dn pe so fl : Bool) (n0 : Nat) (h0 : n0 ≤ 31) (e0 : fc 0 = nI n0) (key : Int32) : CI l y3_get w3_get (rmd 2) D (TS3 cI cZ cS) [.ref o, .int key] (wR o a1 a2 a3 a4 a5 cI cZ fc fk fv fi fh md (bi dn) (bi pe) (bi so) (bi fl) lf ev fe) (fun r w' => r = (if dn = true then -1 else (match fnK (sec fk 0) n0 key with | none => -4 | some i => sec fv 0 i)) ∧ w' = (wR o a1 a2 a3 a4 a5 cI cZ fc fk fv fi fh md (bi dn) (bi pe) (bi so) (bi fl) lf ev fe)) := by
  refine x_metI (lv := [(0, .ref o), (1, .int key)]) (by decide +kernel) rfl rfl (Nat.le_of_ble_eq_true rfl) rfl ?_
  intro X h hret
  refine x_aload_n h (pc' := 1) rfl d3_get_0 0 rfl rfl ?_
  refine x_get h (pc' := 4) rfl (fun c q => List.mem_cons_of_mem _ (in3 c q)) 0 6 rfl rfl (by decide) (List.mem_cons_of_mem _ lk3_88) rfl rfl d3_get_1 ?_
  refine x_if_eq (tg := 11) h (pc' := 7) rfl d3_get_4 (by decide) (bi_0 _) (fun c4 => ?_) (fun c4 => ?_)
  · skip
    refine x_aload_n h (pc' := 12) rfl d3_get_11 0 rfl rfl ?_
    refine x_iconst (v := (nI 0)) h (pc' := 13) rfl d3_get_12 (by decide) ?_
    refine x_iload_n h (pc' := 14) rfl d3_get_13 1 rfl rfl ?_
    -- value
    refine x_vI h (pc' := 17) rfl [.int (nI 0), .int key] (k3_value l D cI cZ cS o a1 a2 a3 a4 a5 fc fk fv fi fh md (bi dn) (bi pe) (bi so) (bi fl) lf ev fe 0 n0 (by omega) h0 e0 key) d3_get_14 2 (gd_V ml3_95 im3_value se3_value ini3 cd3_value) rfl ⟨rfl, rfl⟩ hd3_value ⟨by decide, by decide⟩ ⟨Nat.zero_le _, Nat.zero_le _⟩ 0 rfl rfl rfl [0, 1, 2, 3, 4, 5] rfl rfl rfl (Nat.le_of_ble_eq_true rfl) rfl (fun rr14 ww14 pp14 ee14 => ?_)
    obtain ⟨rfl, rfl⟩ := pp14
    refine x_w (w' := (wR o a1 a2 a3 a4 a5 cI cZ fc fk fv fi fh md (bi dn) (bi pe) (bi so) (bi fl) lf ev fe)) rfl ?_
    exact hret _ _ _ _ d3_get_17 rfl ⟨(if_neg (by rw [c4]; decide)).symm, rfl⟩
  · skip
    refine x_iconst (v := (-1)) h (pc' := 8) rfl d3_get_7 (by decide) ?_
    refine x_goto (pc' := 17) h d3_get_8 (by decide) ?_
    exact hret _ _ _ _ d3_get_17 rfl ⟨(if_pos (ne_f c4)).symm, rfl⟩
set_option maxRecDepth 100000 in
set_option maxHeartbeats 4000000 in
theorem k3_next (l : Launch) (D : va_G) (cI cZ cS : ClassId) (o a1 a2 a3 a4 a5 : Nat) (fc fk fv fi fh : Nat → Int32) (md lf ev fe : Int32) (dn pe so fl : Bool) (n0 : Nat) (h0 : n0 ≤ 31) (e0 : fc 0 = nI n0) (key : Int32) : CI l y3_next w3_next (rmd 1) D (TS3 cI cZ cS) [.ref o, .int key] (wR o a1 a2 a3 a4 a5 cI cZ fc fk fv fi fh md (bi dn) (bi pe) (bi so) (bi fl) lf ev fe) (fun r w' => r = (if dn = true then -1 else (match lbK (sec fk 0) n0 key with | none => -4 | some i => sec fk 0 i)) ∧ w' = (wR o a1 a2 a3 a4 a5 cI cZ fc fk fv fi fh md (bi dn) (bi pe) (bi so) (bi fl) lf ev fe)) := by
  refine x_metI (lv := [(0, .ref o), (1, .int key)]) (by decide +kernel) rfl rfl (Nat.le_of_ble_eq_true rfl) rfl ?_
  intro X h hret
  refine x_aload_n h (pc' := 1) rfl d3_next_0 0 rfl rfl ?_
  refine x_get h (pc' := 4) rfl (fun c q => List.mem_cons_of_mem _ (in3 c q)) 0 6 rfl rfl (by decide) (List.mem_cons_of_mem _ lk3_88) rfl rfl d3_next_1 ?_
  refine x_if_eq (tg := 11) h (pc' := 7) rfl d3_next_4 (by decide) (bi_0 _) (fun c4 => ?_) (fun c4 => ?_)
  · skip
    refine x_aload_n h (pc' := 12) rfl d3_next_11 0 rfl rfl ?_
    refine x_iconst (v := (nI 0)) h (pc' := 13) rfl d3_next_12 (by decide) ?_
    refine x_iload_n h (pc' := 14) rfl d3_next_13 1 rfl rfl ?_
    -- least
    refine x_vI h (pc' := 17) rfl [.int (nI 0), .int key] (k3_least l D cI cZ cS o a1 a2 a3 a4 a5 fc fk fv fi fh md (bi dn) (bi pe) (bi so) (bi fl) lf ev fe 0 n0 (by omega) h0 e0 key) d3_next_14 2 (gd_V ml3_98 im3_least se3_least ini3 cd3_least) rfl ⟨rfl, rfl⟩ hd3_least ⟨by decide, by decide⟩ ⟨Nat.zero_le _, Nat.zero_le _⟩ 0 rfl rfl rfl [0, 1, 2, 3, 4, 5] rfl rfl rfl (Nat.le_of_ble_eq_true rfl) rfl (fun rr14 ww14 pp14 ee14 => ?_)
    obtain ⟨rfl, rfl⟩ := pp14
    refine x_w (w' := (wR o a1 a2 a3 a4 a5 cI cZ fc fk fv fi fh md (bi dn) (bi pe) (bi so) (bi fl) lf ev fe)) rfl ?_
    exact hret _ _ _ _ d3_next_17 rfl ⟨(if_neg (by rw [c4]; decide)).symm, rfl⟩
  · skip
    refine x_iconst (v := (-1)) h (pc' := 8) rfl d3_next_7 (by decide) ?_
    refine x_goto (pc' := 17) h d3_next_8 (by decide) ?_
    exact hret _ _ _ _ d3_next_17 rfl ⟨(if_pos (ne_f c4)).symm, rfl⟩
set_option maxRecDepth 100000 in
set_option maxHeartbeats 4000000 in
theorem k3_size (l : Launch) (D : va_G) (cI cZ cS : ClassId) (o a1 a2 a3 a4 a5 : Nat) (fc fk fv fi fh : Nat → Int32) (md lf ev fe : Int32) (dn pe so fl : Bool) (n0 : Nat) (h0 : n0 ≤ 31) (e0 : fc 0 = nI n0) : CI l y3_size w3_size (rmd 0) D (TS3 cI cZ cS) [.ref o] (wR o a1 a2 a3 a4 a5 cI cZ fc fk fv fi fh md (bi dn) (bi pe) (bi so) (bi fl) lf ev fe) (fun r w' => r = (if dn = true then -1 else nI n0) ∧ w' = (wR o a1 a2 a3 a4 a5 cI cZ fc fk fv fi fh md (bi dn) (bi pe) (bi so) (bi fl) lf ev fe)) := by
  refine x_metI (lv := [(0, .ref o)]) (by decide +kernel) rfl rfl (Nat.le_of_ble_eq_true rfl) rfl ?_
  intro X h hret
  refine x_aload_n h (pc' := 1) rfl d3_size_0 0 rfl rfl ?_
  refine x_get h (pc' := 4) rfl (fun c q => List.mem_cons_of_mem _ (in3 c q)) 0 6 rfl rfl (by decide) (List.mem_cons_of_mem _ lk3_88) rfl rfl d3_size_1 ?_
  refine x_if_eq (tg := 11) h (pc' := 7) rfl d3_size_4 (by decide) (bi_0 _) (fun c4 => ?_) (fun c4 => ?_)
  · skip
    refine x_aload_n h (pc' := 12) rfl d3_size_11 0 rfl rfl ?_
    refine x_get h (pc' := 15) rfl (fun c q => List.mem_cons_of_mem _ (in3 c q)) 0 0 rfl rfl (by decide) (List.mem_cons_of_mem _ lk3_7) rfl rfl d3_size_12 ?_
    refine x_iconst (v := (nI 0)) h (pc' := 16) rfl d3_size_15 (by decide) ?_
    refine x_iald (v := (nI n0)) h (pc' := 17) rfl 1 0 rfl rfl (by omega) (by decide) d3_size_16 e0 ?_
    exact hret _ _ _ _ d3_size_17 rfl ⟨(if_neg (by rw [c4]; decide)).symm, rfl⟩
  · skip
    refine x_iconst (v := (-1)) h (pc' := 8) rfl d3_size_7 (by decide) ?_
    refine x_goto (pc' := 17) h d3_size_8 (by decide) ?_
    exact hret _ _ _ _ d3_size_17 rfl ⟨(if_pos (ne_f c4)).symm, rfl⟩
set_option maxRecDepth 100000 in
set_option maxHeartbeats 4000000 in
theorem k3_nodes (l : Launch) (D : va_G) (cI cZ cS : ClassId) (o a1 a2 a3 a4 a5 : Nat) (fc fk fv fi fh : Nat → Int32) (md lf ev fe : Int32) (dn pe so fl : Bool) (n0 m1 m2 : Nat) (t1 t2 : Bool) (h0 : n0 ≤ 31) (h1 : m1 ≤ 31) (h2 : m2 ≤ 31) (e0 : fc 0 = nI n0) (e1 : fc 1 = nI m1) (e2 : fc 2 = nI m2) (u1 : fh 1 = bi t1) (u2 : fh 2 = bi t2) : CI l y3_nodes w3_nodes (rmd 2) D (TS3 cI cZ cS) [.ref o] (wR o a1 a2 a3 a4 a5 cI cZ fc fk fv fi fh md (bi dn) (bi pe) (bi so) (bi fl) lf ev fe) (fun r w' => r = (if dn = true then -1 else nI (useR fi n0 m1 m2 t1 t2)) ∧ w' = (wR o a1 a2 a3 a4 a5 cI cZ fc fk fv fi fh md (bi dn) (bi pe) (bi so) (bi fl) lf ev fe)) := by
  refine x_metI (lv := [(0, .ref o)]) (by decide +kernel) rfl rfl (Nat.le_of_ble_eq_true rfl) rfl ?_
  intro X h hret
  refine x_aload_n h (pc' := 1) rfl d3_nodes_0 0 rfl rfl ?_
  refine x_get h (pc' := 4) rfl (fun c q => List.mem_cons_of_mem _ (in3 c q)) 0 6 rfl rfl (by decide) (List.mem_cons_of_mem _ lk3_88) rfl rfl d3_nodes_1 ?_
  refine x_if_eq (tg := 11) h (pc' := 7) rfl d3_nodes_4 (by decide) (bi_0 _) (fun c4 => ?_) (fun c4 => ?_)
  · skip
    refine x_aload_n h (pc' := 12) rfl d3_nodes_11 0 rfl rfl ?_
    -- inUse
    refine x_vI h (pc' := 15) rfl [] (k3_inUse l D cI cZ cS o a1 a2 a3 a4 a5 fc fk fv fi fh md (bi dn) (bi pe) (bi so) (bi fl) lf ev fe n0 m1 m2 t1 t2 h0 h1 h2 e0 e1 e2 u1 u2) d3_nodes_12 0 (gd_V ml3_65 im3_inUse se3_inUse ini3 cd3_inUse) rfl ⟨rfl, rfl⟩ hd3_inUse ⟨by decide, by decide⟩ ⟨Nat.zero_le _, Nat.zero_le _⟩ 0 rfl rfl rfl [0, 1, 2, 3, 4, 5] rfl rfl rfl (Nat.le_of_ble_eq_true rfl) rfl (fun rr12 ww12 pp12 ee12 => ?_)
    obtain ⟨rfl, rfl⟩ := pp12
    refine x_w (w' := (wR o a1 a2 a3 a4 a5 cI cZ fc fk fv fi fh md (bi dn) (bi pe) (bi so) (bi fl) lf ev fe)) rfl ?_
    exact hret _ _ _ _ d3_nodes_15 rfl ⟨(if_neg (by rw [c4]; decide)).symm, rfl⟩
  · skip
    refine x_iconst (v := (-1)) h (pc' := 8) rfl d3_nodes_7 (by decide) ?_
    refine x_goto (pc' := 15) h d3_nodes_8 (by decide) ?_
    exact hret _ _ _ _ d3_nodes_15 rfl ⟨(if_pos (ne_f c4)).symm, rfl⟩
set_option maxRecDepth 100000 in
set_option maxHeartbeats 4000000 in
theorem k3_crash (l : Launch) (D : va_G) (cI cZ cS : ClassId) (o a1 a2 a3 a4 a5 : Nat) (fc fk fv fi fh : Nat → Int32) (md lf ev fe : Int32) (dn pe so fl : Bool) : CI l y3_crash w3_crash (rmd 0) D (TS3 cI cZ cS) [.ref o] (wR o a1 a2 a3 a4 a5 cI cZ fc fk fv fi fh md (bi dn) (bi pe) (bi so) (bi fl) lf ev fe) (fun r w' => (dn = true ∧ r = 0 ∧ w' = (wR o a1 a2 a3 a4 a5 cI cZ fc fk fv fi fh md (bi dn) (bi pe) (bi so) (bi fl) lf ev fe)) ∨ (dn = false ∧ r = 1 ∧ w' = (wR o a1 a2 a3 a4 a5 cI cZ fc fk fv fi fh md (nI 1) (bi pe) (bi so) (bi fl) lf ev fe))) := by
  refine x_metZ (lv := [(0, .ref o)]) (by decide +kernel) rfl rfl (Nat.le_of_ble_eq_true rfl) rfl ?_
  intro X h hret
  refine x_aload_n h (pc' := 1) rfl d3_crash_0 0 rfl rfl ?_
  refine x_get h (pc' := 4) rfl (fun c q => List.mem_cons_of_mem _ (in3 c q)) 0 6 rfl rfl (by decide) (List.mem_cons_of_mem _ lk3_88) rfl rfl d3_crash_1 ?_
  refine x_if_eq (tg := 9) h (pc' := 7) rfl d3_crash_4 (by decide) (bi_0 _) (fun c4 => ?_) (fun c4 => ?_)
  · skip
    refine x_aload_n h (pc' := 10) rfl d3_crash_9 0 rfl rfl ?_
    refine x_iconst (v := (nI 1)) h (pc' := 11) rfl d3_crash_10 (by decide) ?_
    refine x_put (w' := (wR o a1 a2 a3 a4 a5 cI cZ fc fk fv fi fh md (nI 1) (bi pe) (bi so) (bi fl) lf ev fe)) (ty := .boolean) h (pc' := 14) rfl (fun c q => List.mem_cons_of_mem _ (in3 c q)) ok3 nm3 0 6 rfl rfl (by decide) (List.mem_cons_of_mem _ lk3_88) rfl rfl rfl rfl rfl (Nat.le_of_ble_eq_true rfl) rfl d3_crash_11 ?_
    refine x_iconst (v := (nI 1)) h (pc' := 15) rfl d3_crash_14 (by decide) ?_
    exact hret _ _ _ _ rfl d3_crash_15 rfl (Or.inr ⟨c4, rfl, rfl⟩)
  · skip
    refine x_iconst (v := (nI 0)) h (pc' := 8) rfl d3_crash_7 (by decide) ?_
    exact hret _ _ _ _ rfl d3_crash_8 rfl (Or.inl ⟨ne_f c4, rfl, rfl⟩)
set_option maxRecDepth 100000 in
set_option maxHeartbeats 4000000 in
theorem k3_events (l : Launch) (D : va_G) (cI cZ cS : ClassId) (o a1 a2 a3 a4 a5 : Nat) (fc fk fv fi fh : Nat → Int32) (md lf ev fe : Int32) (dn pe so fl : Bool) : CI l y3_events w3_events (rmd 0) D (TS3 cI cZ cS) [.ref o] (wR o a1 a2 a3 a4 a5 cI cZ fc fk fv fi fh md (bi dn) (bi pe) (bi so) (bi fl) lf ev fe) (fun r w' => r = ev ∧ w' = (wR o a1 a2 a3 a4 a5 cI cZ fc fk fv fi fh md (bi dn) (bi pe) (bi so) (bi fl) lf ev fe)) := by
  refine x_metI (lv := [(0, .ref o)]) (by decide +kernel) rfl rfl (Nat.le_of_ble_eq_true rfl) rfl ?_
  intro X h hret
  refine x_aload_n h (pc' := 1) rfl d3_events_0 0 rfl rfl ?_
  refine x_get h (pc' := 4) rfl (fun c q => List.mem_cons_of_mem _ (in3 c q)) 0 11 rfl rfl (by decide) (List.mem_cons_of_mem _ lk3_68) rfl rfl d3_events_1 ?_
  exact hret _ _ _ _ d3_events_4 rfl ⟨rfl, rfl⟩
set_option maxRecDepth 100000 in
set_option maxHeartbeats 4000000 in
theorem k3_fences (l : Launch) (D : va_G) (cI cZ cS : ClassId) (o a1 a2 a3 a4 a5 : Nat) (fc fk fv fi fh : Nat → Int32) (md lf ev fe : Int32) (dn pe so fl : Bool) : CI l y3_fences w3_fences (rmd 0) D (TS3 cI cZ cS) [.ref o] (wR o a1 a2 a3 a4 a5 cI cZ fc fk fv fi fh md (bi dn) (bi pe) (bi so) (bi fl) lf ev fe) (fun r w' => r = fe ∧ w' = (wR o a1 a2 a3 a4 a5 cI cZ fc fk fv fi fh md (bi dn) (bi pe) (bi so) (bi fl) lf ev fe)) := by
  refine x_metI (lv := [(0, .ref o)]) (by decide +kernel) rfl rfl (Nat.le_of_ble_eq_true rfl) rfl ?_
  intro X h hret
  refine x_aload_n h (pc' := 1) rfl d3_fences_0 0 rfl rfl ?_
  refine x_get h (pc' := 4) rfl (fun c q => List.mem_cons_of_mem _ (in3 c q)) 0 12 rfl rfl (by decide) (List.mem_cons_of_mem _ lk3_71) rfl rfl d3_fences_1 ?_
  exact hret _ _ _ _ d3_fences_4 rfl ⟨rfl, rfl⟩
set_option maxRecDepth 100000 in
set_option maxHeartbeats 4000000 in
theorem k3_depth (l : Launch) (D : va_G) (cI cZ cS : ClassId) (o a1 a2 a3 a4 a5 : Nat) (fc fk fv fi fh : Nat → Int32) (md lf ev fe : Int32) (dn pe so fl : Bool) (n0 : Nat) (h0 : n0 ≤ 31) (e0 : fc 0 = nI n0) (key : Int32) : CI l y3_depth w3_depth (rmd 3) D (TS3 cI cZ cS) [.ref o, .int key] (wR o a1 a2 a3 a4 a5 cI cZ fc fk fv fi fh md (bi dn) (bi pe) (bi so) (bi fl) lf ev fe) (fun r w' => r = (if dn = true then -1 else (match fnK (sec fk 0) n0 key with | none => -4 | some a => nI (cntF (fun i => decide (i ≠ a ∧ fsT (hiK (sec fk 0)) i ≤ a ∧ a ≤ laT (hiK (sec fk 0)) n0 i)) n0))) ∧ w' = (wR o a1 a2 a3 a4 a5 cI cZ fc fk fv fi fh md (bi dn) (bi pe) (bi so) (bi fl) lf ev fe)) := by
  refine x_metI (lv := [(0, .ref o), (1, .int key)]) (by decide +kernel) rfl rfl (Nat.le_of_ble_eq_true rfl) rfl ?_
  intro X h hret
  have lp : ∀ a : Nat, a < n0 → dn = false → fnK (sec fk 0) n0 key = some a → ∀ f i : Nat, i + f = n0 → WX X 0 0 28 [(4, .int (nI i)), (3, .int (nI (cntF (fun i => decide (i ≠ a ∧ fsT (hiK (sec fk 0)) i ≤ a ∧ a ≤ laT (hiK (sec fk 0)) n0 i)) i))), (2, .int (nI (31 * 0 + a))), (0, .ref o), (1, .int key)] (wR o a1 a2 a3 a4 a5 cI cZ fc fk fv fi fh md (bi dn) (bi pe) (bi so) (bi fl) lf ev fe) [] := by
    intro a ha hdn hq f
    induction f with
    | zero =>
      intro i hi
      obtain rfl : i = n0 := by omega
      refine x_iload h (pc' := 30) rfl d3_depth_28 0 rfl ?_
      refine x_aload_n h (pc' := 31) rfl d3_depth_30 3 rfl rfl ?_
      refine x_get h (pc' := 34) rfl (fun c q => List.mem_cons_of_mem _ (in3 c q)) 0 0 rfl rfl (by decide) (List.mem_cons_of_mem _ lk3_7) rfl rfl d3_depth_31 ?_
      refine x_iconst (v := (nI 0)) h (pc' := 35) rfl d3_depth_34 (by decide) ?_
      refine x_iald (v := (nI i)) h (pc' := 36) rfl 1 0 rfl rfl (by omega) (by decide) d3_depth_35 e0 ?_
      refine x_icmp_ge (tg := 81) h (pc' := 39) rfl d3_depth_36 (by decide) (nI_leI (by omega) (by omega)) (fun c36 => ?_) (fun c36 => ?_)
      · skip
        refine x_iload_n h (pc' := 82) rfl d3_depth_81 1 rfl rfl ?_
        exact hret _ _ _ _ d3_depth_82 rfl ⟨by rw [if_neg (by rw [hdn]; decide), hq], rfl⟩
      · skip
        exact absurd c36 (by omega)
    | succ f ih =>
      intro i hi
      have hcl := cntF_le (fun i => decide (i ≠ a ∧ fsT (hiK (sec fk 0)) i ≤ a ∧ a ≤ laT (hiK (sec fk 0)) n0 i)) i
      have hF := fsT_le (hiK (sec fk 0)) i
      have hL := laT_lt (hiK (sec fk 0)) (show i < n0 by omega)
      refine x_iload h (pc' := 30) rfl d3_depth_28 0 rfl ?_
      refine x_aload_n h (pc' := 31) rfl d3_depth_30 3 rfl rfl ?_
      refine x_get h (pc' := 34) rfl (fun c q => List.mem_cons_of_mem _ (in3 c q)) 0 0 rfl rfl (by decide) (List.mem_cons_of_mem _ lk3_7) rfl rfl d3_depth_31 ?_
      refine x_iconst (v := (nI 0)) h (pc' := 35) rfl d3_depth_34 (by decide) ?_
      refine x_iald (v := (nI n0)) h (pc' := 36) rfl 1 0 rfl rfl (by omega) (by decide) d3_depth_35 e0 ?_
      refine x_icmp_ge (tg := 81) h (pc' := 39) rfl d3_depth_36 (by decide) (nI_leI (by omega) (by omega)) (fun c36 => ?_) (fun c36 => ?_)
      · skip
        exact absurd c36 (by omega)
      · skip
        refine x_iload_n h (pc' := 40) rfl d3_depth_39 1 rfl rfl ?_
        refine x_iload h (pc' := 42) rfl d3_depth_40 0 rfl ?_
        refine x_iload_n h (pc' := 43) rfl d3_depth_42 2 rfl rfl ?_
        refine x_icmp_eq (tg := 72) h (pc' := 46) rfl d3_depth_43 (by decide) (nI_eq (by omega) (by omega)) (fun c43 => ?_) (fun c43 => ?_)
        · skip
          refine x_iconst (v := (nI 0)) h (pc' := 73) rfl d3_depth_72 (by decide) ?_
          refine x_iadd (z := (nI ((cntF (fun i => decide (i ≠ a ∧ fsT (hiK (sec fk 0)) i ≤ a ∧ a ≤ laT (hiK (sec fk 0)) n0 i)) i) + 0))) h (pc' := 74) rfl d3_depth_73 (nI_add (cntF (fun i => decide (i ≠ a ∧ fsT (hiK (sec fk 0)) i ≤ a ∧ a ≤ laT (hiK (sec fk 0)) n0 i)) i) 0) ?_
          refine x_istore_n (lv' := [(3, .int (nI ((cntF (fun i => decide (i ≠ a ∧ fsT (hiK (sec fk 0)) i ≤ a ∧ a ≤ laT (hiK (sec fk 0)) n0 i)) i) + 0))), (4, .int (nI i)), (2, .int (nI (31 * 0 + a))), (0, .ref o), (1, .int key)]) h (pc' := 75) rfl d3_depth_74 rfl (by decide) rfl ?_
          refine x_iinc (lv' := [(4, .int (nI (i + 1))), (3, .int (nI ((cntF (fun i => decide (i ≠ a ∧ fsT (hiK (sec fk 0)) i ≤ a ∧ a ≤ laT (hiK (sec fk 0)) n0 i)) i) + 0))), (2, .int (nI (31 * 0 + a))), (0, .ref o), (1, .int key)]) h (pc' := 78) rfl d3_depth_75 1 rfl (n_inc i) (by decide) rfl ?_
          refine x_goto (pc' := 28) h d3_depth_78 (by decide) ?_
          have en : (cntF (fun i => decide (i ≠ a ∧ fsT (hiK (sec fk 0)) i ≤ a ∧ a ≤ laT (hiK (sec fk 0)) n0 i)) i) + 0 = cntF (fun i => decide (i ≠ a ∧ fsT (hiK (sec fk 0)) i ≤ a ∧ a ≤ laT (hiK (sec fk 0)) n0 i)) (i + 1) := by rw [cntF_add0 (decide_eq_false (by omega))]; rfl
          refine x_lv (lv' := [(4, .int (nI (i + 1))), (3, .int (nI ((cntF (fun i => decide (i ≠ a ∧ fsT (hiK (sec fk 0)) i ≤ a ∧ a ≤ laT (hiK (sec fk 0)) n0 i)) i) + 0))), (2, .int (nI (31 * 0 + a))), (0, .ref o), (1, .int key)]) [0, 1, 2, 3, 4] rfl ?_
          rw [en]
          exact ih (i + 1) (by omega)
        · skip
          refine x_aload_n h (pc' := 47) rfl d3_depth_46 3 rfl rfl ?_
          refine x_iconst (v := (nI 0)) h (pc' := 48) rfl d3_depth_47 (by decide) ?_
          refine x_iload h (pc' := 50) rfl d3_depth_48 0 rfl ?_
          refine x_top (y := (nI (31 * 0 + i))) (congrArg nI (by omega)) ?_
          -- first
          refine x_vI h (pc' := 53) rfl [.int (nI 0), .int (nI (31 * 0 + i))] (k3_first l D cI cZ cS o a1 a2 a3 a4 a5 fc fk fv fi fh md (bi dn) (bi pe) (bi so) (bi fl) lf ev fe 0 n0 (by omega) h0 e0 i (by omega)) d3_depth_50 2 (gd_V ml3_41 im3_first se3_first ini3 cd3_first) rfl ⟨rfl, rfl⟩ hd3_first ⟨by decide, by decide⟩ ⟨Nat.zero_le _, Nat.zero_le _⟩ 0 rfl rfl rfl [0, 1, 2, 3, 4, 5] rfl rfl rfl (Nat.le_of_ble_eq_true rfl) rfl (fun rr50 ww50 pp50 ee50 => ?_)
          obtain ⟨rfl, rfl⟩ := pp50
          refine x_w (w' := (wR o a1 a2 a3 a4 a5 cI cZ fc fk fv fi fh md (bi dn) (bi pe) (bi so) (bi fl) lf ev fe)) rfl ?_
          refine x_iload_n h (pc' := 54) rfl d3_depth_53 2 rfl rfl ?_
          refine x_icmp_gt (tg := 72) h (pc' := 57) rfl d3_depth_54 (by decide) (nI_ltI (by omega) (by omega)) (fun c54 => ?_) (fun c54 => ?_)
          · skip
            refine x_iconst (v := (nI 0)) h (pc' := 73) rfl d3_depth_72 (by decide) ?_
            refine x_iadd (z := (nI ((cntF (fun i => decide (i ≠ a ∧ fsT (hiK (sec fk 0)) i ≤ a ∧ a ≤ laT (hiK (sec fk 0)) n0 i)) i) + 0))) h (pc' := 74) rfl d3_depth_73 (nI_add (cntF (fun i => decide (i ≠ a ∧ fsT (hiK (sec fk 0)) i ≤ a ∧ a ≤ laT (hiK (sec fk 0)) n0 i)) i) 0) ?_
            refine x_istore_n (lv' := [(3, .int (nI ((cntF (fun i => decide (i ≠ a ∧ fsT (hiK (sec fk 0)) i ≤ a ∧ a ≤ laT (hiK (sec fk 0)) n0 i)) i) + 0))), (4, .int (nI i)), (2, .int (nI (31 * 0 + a))), (0, .ref o), (1, .int key)]) h (pc' := 75) rfl d3_depth_74 rfl (by decide) rfl ?_
            refine x_iinc (lv' := [(4, .int (nI (i + 1))), (3, .int (nI ((cntF (fun i => decide (i ≠ a ∧ fsT (hiK (sec fk 0)) i ≤ a ∧ a ≤ laT (hiK (sec fk 0)) n0 i)) i) + 0))), (2, .int (nI (31 * 0 + a))), (0, .ref o), (1, .int key)]) h (pc' := 78) rfl d3_depth_75 1 rfl (n_inc i) (by decide) rfl ?_
            refine x_goto (pc' := 28) h d3_depth_78 (by decide) ?_
            have en : (cntF (fun i => decide (i ≠ a ∧ fsT (hiK (sec fk 0)) i ≤ a ∧ a ≤ laT (hiK (sec fk 0)) n0 i)) i) + 0 = cntF (fun i => decide (i ≠ a ∧ fsT (hiK (sec fk 0)) i ≤ a ∧ a ≤ laT (hiK (sec fk 0)) n0 i)) (i + 1) := by rw [cntF_add0 (decide_eq_false (by omega))]; rfl
            refine x_lv (lv' := [(4, .int (nI (i + 1))), (3, .int (nI ((cntF (fun i => decide (i ≠ a ∧ fsT (hiK (sec fk 0)) i ≤ a ∧ a ≤ laT (hiK (sec fk 0)) n0 i)) i) + 0))), (2, .int (nI (31 * 0 + a))), (0, .ref o), (1, .int key)]) [0, 1, 2, 3, 4] rfl ?_
            rw [en]
            exact ih (i + 1) (by omega)
          · skip
            refine x_aload_n h (pc' := 58) rfl d3_depth_57 3 rfl rfl ?_
            refine x_iconst (v := (nI 0)) h (pc' := 59) rfl d3_depth_58 (by decide) ?_
            refine x_iload h (pc' := 61) rfl d3_depth_59 0 rfl ?_
            refine x_top (y := (nI (31 * 0 + i))) (congrArg nI (by omega)) ?_
            -- last
            refine x_vI h (pc' := 64) rfl [.int (nI 0), .int (nI (31 * 0 + i))] (k3_last l D cI cZ cS o a1 a2 a3 a4 a5 fc fk fv fi fh md (bi dn) (bi pe) (bi so) (bi fl) lf ev fe 0 n0 (by omega) h0 e0 i (by omega)) d3_depth_61 2 (gd_V ml3_45 im3_last se3_last ini3 cd3_last) rfl ⟨rfl, rfl⟩ hd3_last ⟨by decide, by decide⟩ ⟨Nat.zero_le _, Nat.zero_le _⟩ 0 rfl rfl rfl [0, 1, 2, 3, 4, 5] rfl rfl rfl (Nat.le_of_ble_eq_true rfl) rfl (fun rr61 ww61 pp61 ee61 => ?_)
            obtain ⟨rfl, rfl⟩ := pp61
            refine x_w (w' := (wR o a1 a2 a3 a4 a5 cI cZ fc fk fv fi fh md (bi dn) (bi pe) (bi so) (bi fl) lf ev fe)) rfl ?_
            refine x_iload_n h (pc' := 65) rfl d3_depth_64 2 rfl rfl ?_
            refine x_icmp_lt (tg := 72) h (pc' := 68) rfl d3_depth_65 (by decide) (nI_ltI (by omega) (by omega)) (fun c65 => ?_) (fun c65 => ?_)
            · skip
              refine x_iconst (v := (nI 0)) h (pc' := 73) rfl d3_depth_72 (by decide) ?_
              refine x_iadd (z := (nI ((cntF (fun i => decide (i ≠ a ∧ fsT (hiK (sec fk 0)) i ≤ a ∧ a ≤ laT (hiK (sec fk 0)) n0 i)) i) + 0))) h (pc' := 74) rfl d3_depth_73 (nI_add (cntF (fun i => decide (i ≠ a ∧ fsT (hiK (sec fk 0)) i ≤ a ∧ a ≤ laT (hiK (sec fk 0)) n0 i)) i) 0) ?_
              refine x_istore_n (lv' := [(3, .int (nI ((cntF (fun i => decide (i ≠ a ∧ fsT (hiK (sec fk 0)) i ≤ a ∧ a ≤ laT (hiK (sec fk 0)) n0 i)) i) + 0))), (4, .int (nI i)), (2, .int (nI (31 * 0 + a))), (0, .ref o), (1, .int key)]) h (pc' := 75) rfl d3_depth_74 rfl (by decide) rfl ?_
              refine x_iinc (lv' := [(4, .int (nI (i + 1))), (3, .int (nI ((cntF (fun i => decide (i ≠ a ∧ fsT (hiK (sec fk 0)) i ≤ a ∧ a ≤ laT (hiK (sec fk 0)) n0 i)) i) + 0))), (2, .int (nI (31 * 0 + a))), (0, .ref o), (1, .int key)]) h (pc' := 78) rfl d3_depth_75 1 rfl (n_inc i) (by decide) rfl ?_
              refine x_goto (pc' := 28) h d3_depth_78 (by decide) ?_
              have en : (cntF (fun i => decide (i ≠ a ∧ fsT (hiK (sec fk 0)) i ≤ a ∧ a ≤ laT (hiK (sec fk 0)) n0 i)) i) + 0 = cntF (fun i => decide (i ≠ a ∧ fsT (hiK (sec fk 0)) i ≤ a ∧ a ≤ laT (hiK (sec fk 0)) n0 i)) (i + 1) := by rw [cntF_add0 (decide_eq_false (by omega))]; rfl
              refine x_lv (lv' := [(4, .int (nI (i + 1))), (3, .int (nI ((cntF (fun i => decide (i ≠ a ∧ fsT (hiK (sec fk 0)) i ≤ a ∧ a ≤ laT (hiK (sec fk 0)) n0 i)) i) + 0))), (2, .int (nI (31 * 0 + a))), (0, .ref o), (1, .int key)]) [0, 1, 2, 3, 4] rfl ?_
              rw [en]
              exact ih (i + 1) (by omega)
            · skip
              refine x_iconst (v := (nI 1)) h (pc' := 69) rfl d3_depth_68 (by decide) ?_
              refine x_goto (pc' := 73) h d3_depth_69 (by decide) ?_
              refine x_iadd (z := (nI ((cntF (fun i => decide (i ≠ a ∧ fsT (hiK (sec fk 0)) i ≤ a ∧ a ≤ laT (hiK (sec fk 0)) n0 i)) i) + 1))) h (pc' := 74) rfl d3_depth_73 (nI_add (cntF (fun i => decide (i ≠ a ∧ fsT (hiK (sec fk 0)) i ≤ a ∧ a ≤ laT (hiK (sec fk 0)) n0 i)) i) 1) ?_
              refine x_istore_n (lv' := [(3, .int (nI ((cntF (fun i => decide (i ≠ a ∧ fsT (hiK (sec fk 0)) i ≤ a ∧ a ≤ laT (hiK (sec fk 0)) n0 i)) i) + 1))), (4, .int (nI i)), (2, .int (nI (31 * 0 + a))), (0, .ref o), (1, .int key)]) h (pc' := 75) rfl d3_depth_74 rfl (by decide) rfl ?_
              refine x_iinc (lv' := [(4, .int (nI (i + 1))), (3, .int (nI ((cntF (fun i => decide (i ≠ a ∧ fsT (hiK (sec fk 0)) i ≤ a ∧ a ≤ laT (hiK (sec fk 0)) n0 i)) i) + 1))), (2, .int (nI (31 * 0 + a))), (0, .ref o), (1, .int key)]) h (pc' := 78) rfl d3_depth_75 1 rfl (n_inc i) (by decide) rfl ?_
              refine x_goto (pc' := 28) h d3_depth_78 (by decide) ?_
              have en : (cntF (fun i => decide (i ≠ a ∧ fsT (hiK (sec fk 0)) i ≤ a ∧ a ≤ laT (hiK (sec fk 0)) n0 i)) i) + 1 = cntF (fun i => decide (i ≠ a ∧ fsT (hiK (sec fk 0)) i ≤ a ∧ a ≤ laT (hiK (sec fk 0)) n0 i)) (i + 1) := by rw [cntF_add1 (decide_eq_true ⟨by omega, by omega, by omega⟩)]
              refine x_lv (lv' := [(4, .int (nI (i + 1))), (3, .int (nI ((cntF (fun i => decide (i ≠ a ∧ fsT (hiK (sec fk 0)) i ≤ a ∧ a ≤ laT (hiK (sec fk 0)) n0 i)) i) + 1))), (2, .int (nI (31 * 0 + a))), (0, .ref o), (1, .int key)]) [0, 1, 2, 3, 4] rfl ?_
              rw [en]
              exact ih (i + 1) (by omega)
  refine x_aload_n h (pc' := 1) rfl d3_depth_0 0 rfl rfl ?_
  refine x_get h (pc' := 4) rfl (fun c q => List.mem_cons_of_mem _ (in3 c q)) 0 6 rfl rfl (by decide) (List.mem_cons_of_mem _ lk3_88) rfl rfl d3_depth_1 ?_
  refine x_if_eq (tg := 9) h (pc' := 7) rfl d3_depth_4 (by decide) (bi_0 _) (fun c4 => ?_) (fun c4 => ?_)
  · skip
    refine x_aload_n h (pc' := 10) rfl d3_depth_9 0 rfl rfl ?_
    refine x_iconst (v := (nI 0)) h (pc' := 11) rfl d3_depth_10 (by decide) ?_
    refine x_iload_n h (pc' := 12) rfl d3_depth_11 1 rfl rfl ?_
    -- find
    refine x_vI h (pc' := 15) rfl [.int (nI 0), .int key] (k3_find l D cI cZ cS o a1 a2 a3 a4 a5 fc fk fv fi fh md (bi dn) (bi pe) (bi so) (bi fl) lf ev fe 0 n0 (by omega) h0 e0 key) d3_depth_12 2 (gd_V ml3_51 im3_find se3_find ini3 cd3_find) rfl ⟨rfl, rfl⟩ hd3_find ⟨by decide, by decide⟩ ⟨Nat.zero_le _, Nat.zero_le _⟩ 0 rfl rfl rfl [0, 1, 2, 3, 4, 5] rfl rfl rfl (Nat.le_of_ble_eq_true rfl) rfl (fun rr12 ww12 pp12 ee12 => ?_)
    obtain ⟨rfl, rfl⟩ := pp12
    rcases hq : fnK (sec fk 0) n0 key with _ | a
    · skip
      refine x_w (w' := (wR o a1 a2 a3 a4 a5 cI cZ fc fk fv fi fh md (bi dn) (bi pe) (bi so) (bi fl) lf ev fe)) rfl ?_
      refine x_top (y := (-1)) rfl ?_
      refine x_istore_n (lv' := [(2, .int (-1)), (0, .ref o), (1, .int key)]) h (pc' := 16) rfl d3_depth_15 rfl (by decide) rfl ?_
      refine x_iload_n h (pc' := 17) rfl d3_depth_16 0 rfl rfl ?_
      refine x_if_ge (tg := 23) h (pc' := 20) rfl d3_depth_17 (by decide) Iff.rfl (fun c17 => ?_) (fun c17 => ?_)
      · skip
        exact absurd c17 (by decide)
      · skip
        refine x_bipush (v := (-4)) h (pc' := 22) rfl d3_depth_20 (by decide) ?_
        exact hret _ _ _ _ d3_depth_22 rfl ⟨by rw [if_neg (by rw [c4]; decide), hq], rfl⟩
    · skip
      have hb := fnK_some hq
      refine x_w (w' := (wR o a1 a2 a3 a4 a5 cI cZ fc fk fv fi fh md (bi dn) (bi pe) (bi so) (bi fl) lf ev fe)) rfl ?_
      refine x_top (y := (nI (31 * 0 + a))) rfl ?_
      refine x_istore_n (lv' := [(2, .int (nI (31 * 0 + a))), (0, .ref o), (1, .int key)]) h (pc' := 16) rfl d3_depth_15 rfl (by decide) rfl ?_
      refine x_iload_n h (pc' := 17) rfl d3_depth_16 0 rfl rfl ?_
      refine x_if_ge (tg := 23) h (pc' := 20) rfl d3_depth_17 (by decide) (n_ge0 (by omega)) (fun c17 => ?_) (fun c17 => ?_)
      · skip
        refine x_iconst (v := (nI 0)) h (pc' := 24) rfl d3_depth_23 (by decide) ?_
        refine x_istore_n (lv' := [(3, .int (nI 0)), (2, .int (nI (31 * 0 + a))), (0, .ref o), (1, .int key)]) h (pc' := 25) rfl d3_depth_24 rfl (by decide) rfl ?_
        refine x_iconst (v := (nI 0)) h (pc' := 26) rfl d3_depth_25 (by decide) ?_
        refine x_istore (lv' := [(4, .int (nI 0)), (3, .int (nI 0)), (2, .int (nI (31 * 0 + a))), (0, .ref o), (1, .int key)]) h (pc' := 28) rfl d3_depth_26 (by decide) rfl ?_
        refine x_lv (lv' := [(4, .int (nI 0)), (3, .int (nI 0)), (2, .int (nI (31 * 0 + a))), (0, .ref o), (1, .int key)]) [0, 1, 2, 3, 4] rfl ?_
        exact lp a hb.1 c4 hq n0 0 (by omega)
      · skip
        exact absurd c17 (by omega)
  · skip
    refine x_iconst (v := (-1)) h (pc' := 8) rfl d3_depth_7 (by decide) ?_
    exact hret _ _ _ _ d3_depth_8 rfl ⟨(if_pos (ne_f c4)).symm, rfl⟩
