/-! The law: its loop, its start -/
theorem clL_7 : Cond.classLink R_law 7 R2 ∈ BG := bg_t 6 (by decide +kernel) (by decide +kernel)
theorem clL_10 : Cond.classLink R_law 10 R3 ∈ BG := bg_t 263 (by decide +kernel) (by decide +kernel)
theorem imc2 : Cond.instanceMethod y2_init ∈ BG := bg_t 9 (by decide +kernel) (by decide +kernel)
theorem hdc2 : y2_init.cls ≠ "java/lang/invoke/MethodHandle" ∧ y2_init.cls ≠ "java/lang/invoke/VarHandle" ∧ (parseMethodDescriptor y2_init.desc).map (fun d => d.parameters.length) = some 0 := by decide +kernel
theorem ist2 : Cond.instantiable R2 11 ∈ BG := bg_t 7 (by decide +kernel) (by decide +kernel)
theorem imc3 : Cond.instanceMethod y3_init ∈ BG := bg_t 266 (by decide +kernel) (by decide +kernel)
theorem hdc3 : y3_init.cls ≠ "java/lang/invoke/MethodHandle" ∧ y3_init.cls ≠ "java/lang/invoke/VarHandle" ∧ (parseMethodDescriptor y3_init.desc).map (fun d => d.parameters.length) = some 0 := by decide +kernel
theorem ist3 : Cond.instantiable R3 13 ∈ BG := bg_t 264 (by decide +kernel) (by decide +kernel)
theorem nst9 : Cond.methodLinkNest R2 9 y1_init "FencedTreeHeap" ∈ lw_tbl := List.mem_append_right _ (List.mem_of_getElem? (i := 16) (by decide +kernel))
theorem nst29 : Cond.methodLinkNest R2 29 y0_init "FencedTreeHeap" ∈ lw_tbl := List.mem_append_right _ (List.mem_of_getElem? (i := 44) (by decide +kernel))
theorem aoS : Cond.arrayOver (.object "FencedTreeHeap$State") ∈ lw_tbl := List.mem_append_right _ (List.mem_of_getElem? (i := 41) (by decide +kernel))
set_option maxRecDepth 100000 in
set_option maxHeartbeats 4000000 in
theorem law_loop {X : XT} {l : Launch} {D : va_G} {cI cZ cS : ClassId} {b L : Nat} {xs : Nat → Int32} (hL : LX X l D cI cZ cS b L xs) {a o : Nat} (Z : ∀ (lv : List (Nat × Value)) (w : va_W), WX X 31 1067 482 lv w []) : ∀ (f i c : Nat) (w1 w2 : va_W), i = 3 * c → L + 3 ≤ i + 3 * f → i ≤ L + 3 → TI c a o cI cZ cS w1 w2 → WX X 31 1067 18 [(3, .int (nI i)), (2, .ref o), (1, .ref a), (0, .ref b)] (w1 ++ w2) [] := by
  intro f
  have h := hL.1
  have hL5 := hL.2.2.2.2
  induction f with
  | zero =>
    intro i c w1 w2 hi3 hf hi hT
    refine x_iload_n h (pc' := 19) rfl dL_law_18 0 rfl rfl ?_
    refine x_aload_n h (pc' := 20) rfl dL_law_19 3 rfl rfl ?_
    refine x_slen hL (pc' := 21) rfl dL_law_20 ?_
    refine x_iconst (v := (nI 3)) h (pc' := 22) rfl dL_law_21 (by decide) ?_
    refine x_isub (z := ((nI L) - (nI 3))) h (pc' := 23) rfl dL_law_22 rfl ?_
    refine x_icmp_gt (tg := 482) h (pc' := 26) rfl dL_law_23 (by decide) (lt_sub3 (by omega) (by omega)) (fun c23 => ?_) (fun c23 => ?_)
    · skip
      exact Z _ _
    · skip
      exact absurd c23 (by omega)
  | succ f ih =>
    intro i c w1 w2 hi3 hf hi hT
    refine x_iload_n h (pc' := 19) rfl dL_law_18 0 rfl rfl ?_
    refine x_aload_n h (pc' := 20) rfl dL_law_19 3 rfl rfl ?_
    refine x_slen hL (pc' := 21) rfl dL_law_20 ?_
    refine x_iconst (v := (nI 3)) h (pc' := 22) rfl dL_law_21 (by decide) ?_
    refine x_isub (z := ((nI L) - (nI 3))) h (pc' := 23) rfl dL_law_22 rfl ?_
    refine x_icmp_gt (tg := 482) h (pc' := 26) rfl dL_law_23 (by decide) (lt_sub3 (by omega) (by omega)) (fun c23 => ?_) (fun c23 => ?_)
    · skip
      exact Z _ _
    · skip
      obtain ⟨j, hj, ej⟩ := pk_andE (xs i) (m := nI 15) 4 (by decide)
      refine x_aload_n h (pc' := 27) rfl dL_law_26 3 rfl rfl ?_
      refine x_iload_n h (pc' := 28) rfl dL_law_27 0 rfl rfl ?_
      refine x_sld hL (pc' := 29) rfl (by omega) dL_law_28 ?_
      refine x_bipush (v := (nI 15)) h (pc' := 31) rfl dL_law_29 (by decide) ?_
      refine x_iand (z := ((xs i) &&& (nI 15))) h (pc' := 32) rfl dL_law_31 rfl ?_
      refine x_top (y := (nI j)) ej ?_
      have K : ∀ u1 u2 : va_W, TI (c + 1) a o cI cZ cS u1 u2 → WX X 31 1067 476 [(3, .int (nI i)), (2, .ref o), (1, .ref a), (0, .ref b)] (u1 ++ u2) [] := by
        intro u1 u2 hT2
        refine x_iinc (lv' := [(3, .int (nI (i + 3))), (2, .ref o), (1, .ref a), (0, .ref b)]) h (pc' := 479) rfl dL_law_476 0 rfl (nI_add i 3) (by decide) rfl ?_
        refine x_goto (pc' := 18) h dL_law_479 (by decide) ?_
        exact ih (i + 3) (c + 1) u1 u2 (by omega) (by omega) (by omega) hT2
      have hc : c ≤ 511 := by omega
      have hi4 : i + 3 ≤ L := by omega
      match j, hj with
      | 0, _ => exact x_table hL (off := 80) (tg := 112) dL_law_32 (by decide) rfl (by decide) (law_cut hL hT hi4 hc K)
      | 1, _ => exact x_table hL (off := 103) (tg := 135) dL_law_32 (by decide) rfl (by decide) (law_put hL hT hi4 hc K)
      | 2, _ => exact x_table hL (off := 136) (tg := 168) dL_law_32 (by decide) rfl (by decide) (law_remove hL hT hi4 hc K)
      | 3, _ => exact x_table hL (off := 159) (tg := 191) dL_law_32 (by decide) rfl (by decide) (law_get hL hT hi4 hc K)
      | 4, _ => exact x_table hL (off := 182) (tg := 214) dL_law_32 (by decide) rfl (by decide) (law_next hL hT hi4 hc K)
      | 5, _ => exact x_table hL (off := 205) (tg := 237) dL_law_32 (by decide) rfl (by decide) (law_depth hL hT hi4 hc K)
      | 6, _ => exact x_table hL (off := 228) (tg := 260) dL_law_32 (by decide) rfl (by decide) (law_size hL hT hi4 hc K)
      | 7, _ => exact x_table hL (off := 241) (tg := 273) dL_law_32 (by decide) rfl (by decide) (law_nodes hL hT hi4 hc K)
      | 8, _ => exact x_table hL (off := 254) (tg := 286) dL_law_32 (by decide) rfl (by decide) (law_hold hL hT hi4 hc K)
      | 9, _ => exact x_table hL (off := 277) (tg := 309) dL_law_32 (by decide) rfl (by decide) (law_release hL hT hi4 hc K)
      | 10, _ => exact x_table hL (off := 300) (tg := 332) dL_law_32 (by decide) rfl (by decide) (law_heldGet hL hT hi4 hc K)
      | 11, _ => exact x_table hL (off := 333) (tg := 365) dL_law_32 (by decide) rfl (by decide) (law_heldNext hL hT hi4 hc K)
      | 12, _ => exact x_table hL (off := 366) (tg := 398) dL_law_32 (by decide) rfl (by decide) (law_crash hL hT hi4 hc K)
      | 13, _ => exact x_table hL (off := 379) (tg := 411) dL_law_32 (by decide) rfl (by decide) (law_restart hL hT hi4 hc K)
      | 14, _ => exact x_table hL (off := 418) (tg := 450) dL_law_32 (by decide) rfl (by decide) (law_events hL hT hi4 hc K)
      | 15, _ => exact x_table hL (off := 431) (tg := 463) dL_law_32 (by decide) rfl (by decide) (law_fences hL hT hi4 hc K)
      | j + 16, hj => exact absurd hj (by omega)
