/-! The reference: its world, its methods -/
abbrev TS3 (cI cZ cS : ClassId) : TY := [(cI, .int), (cZ, .boolean), (cS, .object "FencedTreeHeap$State")]
abbrev rmd (d : Nat) : Room := { frames := d, cells := 0, slots := 0, locals := 40 * d }
abbrev wR (o a1 a2 a3 a4 a5 : Nat) (cI cZ : ClassId) (fc fk fv fi fh : Nat → Int32) (md dn pe so fl lf ev fe : Int32) : va_W :=
  [(o, .inr (3, [.ref a1, .ref a2, .ref a3, .ref a4, .ref a5, .int md, .int dn, .int pe, .int so, .int fl, .int lf, .int ev, .int fe])), (a1, .inl (cI, 5, .inl fc)), (a2, .inl (cI, 155, .inl fk)), (a3, .inl (cI, 155, .inl fv)), (a4, .inl (cI, 155, .inl fi)), (a5, .inl (cZ, 3, .inl fh))]
set_option maxRecDepth 100000 in
set_option maxHeartbeats 4000000 in
theorem k3_rank (l : Launch) (D : va_G) (cI cZ cS : ClassId) (key : Int32) : CI l y3_rank w3_rank (rmd 0) D (TS3 cI cZ cS) [.int key] [] (fun r w' => r = rk key ∧ w' = []) := by
  refine x_metI (lv := [(0, .int key)]) (by decide +kernel) rfl rfl (Nat.le_of_ble_eq_true rfl) rfl ?_
  intro X h hret
  refine x_iload_n h (pc' := 1) rfl d3_rank_0 0 rfl rfl ?_
  refine x_iconst (v := (nI 1)) h (pc' := 2) rfl d3_rank_1 (by decide) ?_
  refine x_iadd (z := (key + (nI 1))) h (pc' := 3) rfl d3_rank_2 rfl ?_
  refine x_ldc (v := 1664525) h (pc' := 5) rfl (List.mem_cons_of_mem _ ck3_30) d3_rank_3 ?_
  refine x_imul (z := ((key + (nI 1)) * 1664525)) h (pc' := 6) rfl d3_rank_5 rfl ?_
  refine x_ldc (v := 1013904223) h (pc' := 8) rfl (List.mem_cons_of_mem _ ck3_31) d3_rank_6 ?_
  refine x_iadd (z := (((key + (nI 1)) * 1664525) + 1013904223)) h (pc' := 9) rfl d3_rank_8 rfl ?_
  refine x_istore_n (lv' := [(1, .int (((key + (nI 1)) * 1664525) + 1013904223)), (0, .int key)]) h (pc' := 10) rfl d3_rank_9 rfl (by decide) rfl ?_
  refine x_iload_n h (pc' := 11) rfl d3_rank_10 0 rfl rfl ?_
  refine x_iload_n h (pc' := 12) rfl d3_rank_11 0 rfl rfl ?_
  refine x_bipush (v := (nI 15)) h (pc' := 14) rfl d3_rank_12 (by decide) ?_
  refine x_iushr (z := (((((key + (nI 1)) * 1664525) + 1013904223).toUInt32 >>> ((nI 15).toUInt32 &&& Int32.toUInt32 31)).toInt32)) h (pc' := 15) rfl d3_rank_14 rfl ?_
  refine x_ixor (z := ((((key + (nI 1)) * 1664525) + 1013904223) ^^^ (((((key + (nI 1)) * 1664525) + 1013904223).toUInt32 >>> ((nI 15).toUInt32 &&& Int32.toUInt32 31)).toInt32))) h (pc' := 16) rfl d3_rank_15 rfl ?_
  refine x_ldc (v := 1048575) h (pc' := 18) rfl (List.mem_cons_of_mem _ ck3_32) d3_rank_16 ?_
  refine x_iand (z := (((((key + (nI 1)) * 1664525) + 1013904223) ^^^ (((((key + (nI 1)) * 1664525) + 1013904223).toUInt32 >>> ((nI 15).toUInt32 &&& Int32.toUInt32 31)).toInt32)) &&& 1048575)) h (pc' := 19) rfl d3_rank_18 rfl ?_
  exact hret _ _ _ _ d3_rank_19 rfl ⟨rfl, rfl⟩
set_option maxRecDepth 100000 in
set_option maxHeartbeats 4000000 in
theorem k3_higher (l : Launch) (D : va_G) (cI cZ cS : ClassId) (a b : Int32) : CI l y3_higher w3_higher (rmd 1) D (TS3 cI cZ cS) [.int a, .int b] [] (fun r w' => r = bi (hg a b) ∧ w' = []) := by
  refine x_metZ (lv := [(0, .int a), (1, .int b)]) (by decide +kernel) rfl rfl (Nat.le_of_ble_eq_true rfl) rfl ?_
  intro X h hret
  refine x_iload_n h (pc' := 1) rfl d3_higher_0 0 rfl rfl ?_
  -- rank
  refine x_sI h (pc' := 4) rfl [.int a] (k3_rank l D cI cZ cS a) d3_higher_1 1 (gd_S ml3_33 st3_rank ini3 cd3_rank) rfl ⟨rfl, rfl⟩ hd3_rank ⟨by decide, by decide⟩ ⟨Nat.zero_le _, Nat.zero_le _⟩ [] rfl rfl rfl (Nat.le_of_ble_eq_true rfl) rfl (fun rr1 ww1 pp1 ee1 => ?_)
  obtain ⟨rfl, rfl⟩ := pp1
  refine x_w (w' := []) rfl ?_
  refine x_iload_n h (pc' := 5) rfl d3_higher_4 1 rfl rfl ?_
  -- rank
  refine x_sI h (pc' := 8) rfl [.int b] (k3_rank l D cI cZ cS b) d3_higher_5 1 (gd_S ml3_33 st3_rank ini3 cd3_rank) rfl ⟨rfl, rfl⟩ hd3_rank ⟨by decide, by decide⟩ ⟨Nat.zero_le _, Nat.zero_le _⟩ [] rfl rfl rfl (Nat.le_of_ble_eq_true rfl) rfl (fun rr5 ww5 pp5 ee5 => ?_)
  obtain ⟨rfl, rfl⟩ := pp5
  refine x_w (w' := []) rfl ?_
  refine x_icmp_gt (tg := 27) h (pc' := 11) rfl d3_higher_8 (by decide) Iff.rfl (fun c8 => ?_) (fun c8 => ?_)
  · skip
    refine x_iconst (v := (nI 1)) h (pc' := 28) rfl d3_higher_27 (by decide) ?_
    refine x_goto (pc' := 32) h d3_higher_28 (by decide) ?_
    exact hret _ _ _ _ rfl d3_higher_32 rfl ⟨bi1 (decide_eq_true (by first | exact Or.inl c8 | exact Or.inr ⟨c19, Int32.not_le.mp c24⟩)), rfl⟩
  · skip
    refine x_iload_n h (pc' := 12) rfl d3_higher_11 0 rfl rfl ?_
    -- rank
    refine x_sI h (pc' := 15) rfl [.int a] (k3_rank l D cI cZ cS a) d3_higher_12 1 (gd_S ml3_33 st3_rank ini3 cd3_rank) rfl ⟨rfl, rfl⟩ hd3_rank ⟨by decide, by decide⟩ ⟨Nat.zero_le _, Nat.zero_le _⟩ [] rfl rfl rfl (Nat.le_of_ble_eq_true rfl) rfl (fun rr12 ww12 pp12 ee12 => ?_)
    obtain ⟨rfl, rfl⟩ := pp12
    refine x_w (w' := []) rfl ?_
    refine x_iload_n h (pc' := 16) rfl d3_higher_15 1 rfl rfl ?_
    -- rank
    refine x_sI h (pc' := 19) rfl [.int b] (k3_rank l D cI cZ cS b) d3_higher_16 1 (gd_S ml3_33 st3_rank ini3 cd3_rank) rfl ⟨rfl, rfl⟩ hd3_rank ⟨by decide, by decide⟩ ⟨Nat.zero_le _, Nat.zero_le _⟩ [] rfl rfl rfl (Nat.le_of_ble_eq_true rfl) rfl (fun rr16 ww16 pp16 ee16 => ?_)
    obtain ⟨rfl, rfl⟩ := pp16
    refine x_w (w' := []) rfl ?_
    refine x_icmp_ne (tg := 31) h (pc' := 22) rfl d3_higher_19 (by decide) Iff.rfl (fun c19 => ?_) (fun c19 => ?_)
    · skip
      refine x_iconst (v := (nI 0)) h (pc' := 32) rfl d3_higher_31 (by decide) ?_
      exact hret _ _ _ _ rfl d3_higher_32 rfl ⟨bi0 (decide_eq_false (by rintro (q | ⟨q1, q2⟩) <;> first | exact c8 q | exact c19 q1 | exact (Int32.not_le.mpr q2) c24)), rfl⟩
    · skip
      refine x_iload_n h (pc' := 23) rfl d3_higher_22 0 rfl rfl ?_
      refine x_iload_n h (pc' := 24) rfl d3_higher_23 1 rfl rfl ?_
      refine x_icmp_ge (tg := 31) h (pc' := 27) rfl d3_higher_24 (by decide) Iff.rfl (fun c24 => ?_) (fun c24 => ?_)
      · skip
        refine x_iconst (v := (nI 0)) h (pc' := 32) rfl d3_higher_31 (by decide) ?_
        exact hret _ _ _ _ rfl d3_higher_32 rfl ⟨bi0 (decide_eq_false (by rintro (q | ⟨q1, q2⟩) <;> first | exact c8 q | exact c19 q1 | exact (Int32.not_le.mpr q2) c24)), rfl⟩
      · skip
        refine x_iconst (v := (nI 1)) h (pc' := 28) rfl d3_higher_27 (by decide) ?_
        refine x_goto (pc' := 32) h d3_higher_28 (by decide) ?_
        exact hret _ _ _ _ rfl d3_higher_32 rfl ⟨bi1 (decide_eq_true (by first | exact Or.inl c8 | exact Or.inr ⟨c19, Int32.not_le.mp c24⟩)), rfl⟩
