theorem oi0 : Cond.methodLink R0 3 Lib.objectInit ∈ BG := bg_t 47 (by decide +kernel) (by decide +kernel)
theorem oi1 : Cond.methodLink R1 3 Lib.objectInit ∈ BG := bg_t 19 (by decide +kernel) (by decide +kernel)
theorem oi2 : Cond.methodLink R2 1 Lib.objectInit ∈ BG := bg_t 11 (by decide +kernel) (by decide +kernel)
theorem oi3 : Cond.methodLink R3 1 Lib.objectInit ∈ BG := bg_t 268 (by decide +kernel) (by decide +kernel)
theorem oim : Cond.instanceMethod Lib.objectInit ∈ BG := bg_t 12 (by decide +kernel) (by decide +kernel)
theorem oic : Cond.code Lib.objectInit ⟨#[0xb1]⟩ 1 none ∈ BG := bg_t 13 (by decide +kernel) (by decide +kernel)
theorem arI : Cond.arrayClass .int ∈ BG := bg_t 40 (by decide +kernel) (by decide +kernel)
theorem arZ : Cond.arrayClass .boolean ∈ BG := bg_t 56 (by decide +kernel) (by decide +kernel)
theorem imc0 : Cond.instanceMethod y0_init ∈ BG := bg_t 45 (by decide +kernel) (by decide +kernel)
theorem hdc0 : y0_init.cls ≠ "java/lang/invoke/MethodHandle" ∧ y0_init.cls ≠ "java/lang/invoke/VarHandle" ∧ (parseMethodDescriptor y0_init.desc).map (fun d => d.parameters.length) = some 0 := by decide +kernel
theorem ist0 : Cond.instantiable R0 2 ∈ BG := bg_t 43 (by decide +kernel) (by decide +kernel)
theorem imc1 : Cond.instanceMethod y1_init ∈ BG := bg_t 17 (by decide +kernel) (by decide +kernel)
theorem hdc1 : y1_init.cls ≠ "java/lang/invoke/MethodHandle" ∧ y1_init.cls ≠ "java/lang/invoke/VarHandle" ∧ (parseMethodDescriptor y1_init.desc).map (fun d => d.parameters.length) = some 0 := by decide +kernel
theorem ist1 : Cond.instantiable R1 5 ∈ BG := bg_t 15 (by decide +kernel) (by decide +kernel)
theorem cl2_7 : Cond.classLink R2 7 R1 ∈ BG := bg_t 14 (by decide +kernel) (by decide +kernel)
theorem cl2_27 : Cond.classLink R2 27 R0 ∈ BG := bg_t 42 (by decide +kernel) (by decide +kernel)
theorem gd_I {c0 : Cond} {y : MethodName} {bytes : ByteArray} {maxL : Nat} {ret : Option FieldType} (h5 : Cond.code y bytes maxL ret ∈ BG) : GoodIn (c0 :: BG) (Cond.code y bytes maxL ret :: BG) := by
  intro w hw
  rcases List.mem_cons.mp hw with rfl | h
  · exact bg_good h5
  · exact bg_good h
/-- what the making of the class's object needs beside the words -/
def EX (U : State) : Prop := va_Nw (.methodLinkNest R2 9 y1_init "FencedTreeHeap") U ∧ va_Nw (.methodLinkNest R2 29 y0_init "FencedTreeHeap") U ∧ va_AO "FencedTreeHeap$State" U
abbrev roomC (f c s : Nat) : Room := { frames := f, cells := c, slots := s, locals := 40 * f }
abbrev z0 : Nat → Int32 := fun _ => 0
set_option maxRecDepth 100000 in
set_option maxHeartbeats 4000000 in
theorem k0_init (l : Launch) (D : va_G) (cI cZ cS : ClassId) (o : Nat) : CC l y0_init w0_init (roomC 1 1 64) D (TS3 cI cZ cS) [.ref o] [(o, .inr (0, [.null, .int (nI 0)]))] (fun _ => True) 1 64 (fun w' => ∃ hu : Nat, w' = wH o hu cZ z0 (nI 0)) := by
  refine x_metC (lv := [(0, .ref o)]) (by decide +kernel) rfl rfl rfl (Nat.le_of_ble_eq_true rfl) rfl ?_
  intro X h hA hinit hE hret
  refine x_aload_n h (pc' := 1) rfl d0_init_0 0 rfl rfl ?_
  refine x_objinit h (pc' := 4) rfl (List.mem_cons_of_mem _ oi0) (List.mem_cons_of_mem _ oim) (List.mem_cons_of_mem _ oic) (Nat.le_of_ble_eq_true rfl) (by decide) (by decide) d0_init_1 ?_
  refine x_aload_n h (pc' := 5) rfl d0_init_4 0 rfl rfl ?_
  refine x_bipush (v := (nI 64)) h (pc' := 7) rfl d0_init_5 (by decide) ?_
  refine x_newz h hA (pc' := 9) rfl (List.mem_cons_of_mem _ arZ) 1 rfl (by decide) (by decide) (by decide) d0_init_7 (fun b1 => ?_)
  refine x_w (w' := [(o, .inr (0, [.null, .int (nI 0)])), (b1, .inl (cZ, 64, .inl (fun _ => 0)))]) rfl ?_
  refine x_putF (w' := [(o, .inr (0, [.ref b1, .int (nI 0)])), (b1, .inl (cZ, 64, .inl (fun _ => 0)))]) (ty := .array .boolean) h hinit (pc' := 12) rfl (fun c q => List.mem_cons_of_mem _ (in0 c q)) ok0 nm0 0 0 rfl rfl (by decide) (List.mem_cons_of_mem _ lk0_9) rfl rfl rfl rfl rfl rfl (Nat.le_of_ble_eq_true rfl) rfl d0_init_9 ?_
  exact hret _ _ _ d0_init_12 ⟨b1, rfl⟩
set_option maxRecDepth 100000 in
set_option maxHeartbeats 4000000 in
theorem k1_init (l : Launch) (D : va_G) (cI cZ cS : ClassId) (o : Nat) : CC l y1_init w1_init (roomC 1 4 120) D (TS3 cI cZ cS) [.ref o] [(o, .inr (1, [.null, .null, .null, .null, .int (nI 0)]))] (fun _ => True) 4 120 (fun w' => ∃ b1 b2 b3 b4 : Nat, w' = wS o b1 b2 b3 b4 cI z0 z0 z0 z0 (nI 0)) := by
  refine x_metC (lv := [(0, .ref o)]) (by decide +kernel) rfl rfl rfl (Nat.le_of_ble_eq_true rfl) rfl ?_
  intro X h hA hinit hE hret
  refine x_aload_n h (pc' := 1) rfl d1_init_0 0 rfl rfl ?_
  refine x_objinit h (pc' := 4) rfl (List.mem_cons_of_mem _ oi1) (List.mem_cons_of_mem _ oim) (List.mem_cons_of_mem _ oic) (Nat.le_of_ble_eq_true rfl) (by decide) (by decide) d1_init_1 ?_
  refine x_aload_n h (pc' := 5) rfl d1_init_4 0 rfl rfl ?_
  refine x_bipush (v := (nI 30)) h (pc' := 7) rfl d1_init_5 (by decide) ?_
  refine x_newi h hA (pc' := 9) rfl (List.mem_cons_of_mem _ arI) 0 rfl (by decide) (by decide) (by decide) d1_init_7 (fun b1 => ?_)
  refine x_w (w' := [(o, .inr (1, [.null, .null, .null, .null, .int (nI 0)])), (b1, .inl (cI, 30, .inl (fun _ => 0)))]) rfl ?_
  refine x_putF (w' := [(o, .inr (1, [.ref b1, .null, .null, .null, .int (nI 0)])), (b1, .inl (cI, 30, .inl (fun _ => 0)))]) (ty := .array .int) h hinit (pc' := 12) rfl (fun c q => List.mem_cons_of_mem _ (in1 c q)) ok1 nm1 0 0 rfl rfl (by decide) (List.mem_cons_of_mem _ lk1_9) rfl rfl rfl rfl rfl rfl (Nat.le_of_ble_eq_true rfl) rfl d1_init_9 ?_
  refine x_aload_n h (pc' := 13) rfl d1_init_12 0 rfl rfl ?_
  refine x_bipush (v := (nI 30)) h (pc' := 15) rfl d1_init_13 (by decide) ?_
  refine x_newi h hA (pc' := 17) rfl (List.mem_cons_of_mem _ arI) 0 rfl (by decide) (by decide) (by decide) d1_init_15 (fun b2 => ?_)
  refine x_w (w' := [(o, .inr (1, [.ref b1, .null, .null, .null, .int (nI 0)])), (b1, .inl (cI, 30, .inl (fun _ => 0))), (b2, .inl (cI, 30, .inl (fun _ => 0)))]) rfl ?_
  refine x_putF (w' := [(o, .inr (1, [.ref b1, .ref b2, .null, .null, .int (nI 0)])), (b1, .inl (cI, 30, .inl (fun _ => 0))), (b2, .inl (cI, 30, .inl (fun _ => 0)))]) (ty := .array .int) h hinit (pc' := 20) rfl (fun c q => List.mem_cons_of_mem _ (in1 c q)) ok1 nm1 0 1 rfl rfl (by decide) (List.mem_cons_of_mem _ lk1_15) rfl rfl rfl rfl rfl rfl (Nat.le_of_ble_eq_true rfl) rfl d1_init_17 ?_
  refine x_aload_n h (pc' := 21) rfl d1_init_20 0 rfl rfl ?_
  refine x_bipush (v := (nI 30)) h (pc' := 23) rfl d1_init_21 (by decide) ?_
  refine x_newi h hA (pc' := 25) rfl (List.mem_cons_of_mem _ arI) 0 rfl (by decide) (by decide) (by decide) d1_init_23 (fun b3 => ?_)
  refine x_w (w' := [(o, .inr (1, [.ref b1, .ref b2, .null, .null, .int (nI 0)])), (b1, .inl (cI, 30, .inl (fun _ => 0))), (b2, .inl (cI, 30, .inl (fun _ => 0))), (b3, .inl (cI, 30, .inl (fun _ => 0)))]) rfl ?_
  refine x_putF (w' := [(o, .inr (1, [.ref b1, .ref b2, .ref b3, .null, .int (nI 0)])), (b1, .inl (cI, 30, .inl (fun _ => 0))), (b2, .inl (cI, 30, .inl (fun _ => 0))), (b3, .inl (cI, 30, .inl (fun _ => 0)))]) (ty := .array .int) h hinit (pc' := 28) rfl (fun c q => List.mem_cons_of_mem _ (in1 c q)) ok1 nm1 0 2 rfl rfl (by decide) (List.mem_cons_of_mem _ lk1_18) rfl rfl rfl rfl rfl rfl (Nat.le_of_ble_eq_true rfl) rfl d1_init_25 ?_
  refine x_aload_n h (pc' := 29) rfl d1_init_28 0 rfl rfl ?_
  refine x_bipush (v := (nI 30)) h (pc' := 31) rfl d1_init_29 (by decide) ?_
  refine x_newi h hA (pc' := 33) rfl (List.mem_cons_of_mem _ arI) 0 rfl (by decide) (by decide) (by decide) d1_init_31 (fun b4 => ?_)
  refine x_w (w' := [(o, .inr (1, [.ref b1, .ref b2, .ref b3, .null, .int (nI 0)])), (b1, .inl (cI, 30, .inl (fun _ => 0))), (b2, .inl (cI, 30, .inl (fun _ => 0))), (b3, .inl (cI, 30, .inl (fun _ => 0))), (b4, .inl (cI, 30, .inl (fun _ => 0)))]) rfl ?_
  refine x_putF (w' := [(o, .inr (1, [.ref b1, .ref b2, .ref b3, .ref b4, .int (nI 0)])), (b1, .inl (cI, 30, .inl (fun _ => 0))), (b2, .inl (cI, 30, .inl (fun _ => 0))), (b3, .inl (cI, 30, .inl (fun _ => 0))), (b4, .inl (cI, 30, .inl (fun _ => 0)))]) (ty := .array .int) h hinit (pc' := 36) rfl (fun c q => List.mem_cons_of_mem _ (in1 c q)) ok1 nm1 0 3 rfl rfl (by decide) (List.mem_cons_of_mem _ lk1_21) rfl rfl rfl rfl rfl rfl (Nat.le_of_ble_eq_true rfl) rfl d1_init_33 ?_
  exact hret _ _ _ d1_init_36 ⟨b1, b2, b3, b4, rfl⟩
set_option maxRecDepth 100000 in
set_option maxHeartbeats 4000000 in
theorem k3_init (l : Launch) (D : va_G) (cI cZ cS : ClassId) (o : Nat) : CC l y3_init w3_init (roomC 1 5 473) D (TS3 cI cZ cS) [.ref o] [(o, .inr (3, [.null, .null, .null, .null, .null, .int (nI 0), .int (nI 0), .int (nI 0), .int (nI 0), .int (nI 0), .int (nI 0), .int (nI 0), .int (nI 0)]))] (fun _ => True) 5 473 (fun w' => ∃ a1 a2 a3 a4 a5 : Nat, w' = wR o a1 a2 a3 a4 a5 cI cZ z0 z0 z0 z0 z0 (nI 0) (nI 0) (nI 0) (nI 0) (nI 0) (-1) (nI 0) (nI 0)) := by
  refine x_metC (lv := [(0, .ref o)]) (by decide +kernel) rfl rfl rfl (Nat.le_of_ble_eq_true rfl) rfl ?_
  intro X h hA hinit hE hret
  refine x_aload_n h (pc' := 1) rfl d3_init_0 0 rfl rfl ?_
  refine x_objinit h (pc' := 4) rfl (List.mem_cons_of_mem _ oi3) (List.mem_cons_of_mem _ oim) (List.mem_cons_of_mem _ oic) (Nat.le_of_ble_eq_true rfl) (by decide) (by decide) d3_init_1 ?_
  refine x_aload_n h (pc' := 5) rfl d3_init_4 0 rfl rfl ?_
  refine x_iconst (v := (nI 5)) h (pc' := 6) rfl d3_init_5 (by decide) ?_
  refine x_newi h hA (pc' := 8) rfl (List.mem_cons_of_mem _ arI) 0 rfl (by decide) (by decide) (by decide) d3_init_6 (fun a1 => ?_)
  refine x_w (w' := [(o, .inr (3, [.null, .null, .null, .null, .null, .int (nI 0), .int (nI 0), .int (nI 0), .int (nI 0), .int (nI 0), .int (nI 0), .int (nI 0), .int (nI 0)])), (a1, .inl (cI, 5, .inl (fun _ => 0)))]) rfl ?_
  refine x_putF (w' := [(o, .inr (3, [.ref a1, .null, .null, .null, .null, .int (nI 0), .int (nI 0), .int (nI 0), .int (nI 0), .int (nI 0), .int (nI 0), .int (nI 0), .int (nI 0)])), (a1, .inl (cI, 5, .inl (fun _ => 0)))]) (ty := .array .int) h hinit (pc' := 11) rfl (fun c q => List.mem_cons_of_mem _ (in3 c q)) ok3 nm3 0 0 rfl rfl (by decide) (List.mem_cons_of_mem _ lk3_7) rfl rfl rfl rfl rfl rfl (Nat.le_of_ble_eq_true rfl) rfl d3_init_8 ?_
  refine x_aload_n h (pc' := 12) rfl d3_init_11 0 rfl rfl ?_
  refine x_sipush (v := (nI 155)) h (pc' := 15) rfl d3_init_12 (by decide) ?_
  refine x_newi h hA (pc' := 17) rfl (List.mem_cons_of_mem _ arI) 0 rfl (by decide) (by decide) (by decide) d3_init_15 (fun a2 => ?_)
  refine x_w (w' := [(o, .inr (3, [.ref a1, .null, .null, .null, .null, .int (nI 0), .int (nI 0), .int (nI 0), .int (nI 0), .int (nI 0), .int (nI 0), .int (nI 0), .int (nI 0)])), (a1, .inl (cI, 5, .inl (fun _ => 0))), (a2, .inl (cI, 155, .inl (fun _ => 0)))]) rfl ?_
  refine x_putF (w' := [(o, .inr (3, [.ref a1, .ref a2, .null, .null, .null, .int (nI 0), .int (nI 0), .int (nI 0), .int (nI 0), .int (nI 0), .int (nI 0), .int (nI 0), .int (nI 0)])), (a1, .inl (cI, 5, .inl (fun _ => 0))), (a2, .inl (cI, 155, .inl (fun _ => 0)))]) (ty := .array .int) h hinit (pc' := 20) rfl (fun c q => List.mem_cons_of_mem _ (in3 c q)) ok3 nm3 0 1 rfl rfl (by decide) (List.mem_cons_of_mem _ lk3_13) rfl rfl rfl rfl rfl rfl (Nat.le_of_ble_eq_true rfl) rfl d3_init_17 ?_
  refine x_aload_n h (pc' := 21) rfl d3_init_20 0 rfl rfl ?_
  refine x_sipush (v := (nI 155)) h (pc' := 24) rfl d3_init_21 (by decide) ?_
  refine x_newi h hA (pc' := 26) rfl (List.mem_cons_of_mem _ arI) 0 rfl (by decide) (by decide) (by decide) d3_init_24 (fun a3 => ?_)
  refine x_w (w' := [(o, .inr (3, [.ref a1, .ref a2, .null, .null, .null, .int (nI 0), .int (nI 0), .int (nI 0), .int (nI 0), .int (nI 0), .int (nI 0), .int (nI 0), .int (nI 0)])), (a1, .inl (cI, 5, .inl (fun _ => 0))), (a2, .inl (cI, 155, .inl (fun _ => 0))), (a3, .inl (cI, 155, .inl (fun _ => 0)))]) rfl ?_
  refine x_putF (w' := [(o, .inr (3, [.ref a1, .ref a2, .ref a3, .null, .null, .int (nI 0), .int (nI 0), .int (nI 0), .int (nI 0), .int (nI 0), .int (nI 0), .int (nI 0), .int (nI 0)])), (a1, .inl (cI, 5, .inl (fun _ => 0))), (a2, .inl (cI, 155, .inl (fun _ => 0))), (a3, .inl (cI, 155, .inl (fun _ => 0)))]) (ty := .array .int) h hinit (pc' := 29) rfl (fun c q => List.mem_cons_of_mem _ (in3 c q)) ok3 nm3 0 2 rfl rfl (by decide) (List.mem_cons_of_mem _ lk3_16) rfl rfl rfl rfl rfl rfl (Nat.le_of_ble_eq_true rfl) rfl d3_init_26 ?_
  refine x_aload_n h (pc' := 30) rfl d3_init_29 0 rfl rfl ?_
  refine x_sipush (v := (nI 155)) h (pc' := 33) rfl d3_init_30 (by decide) ?_
  refine x_newi h hA (pc' := 35) rfl (List.mem_cons_of_mem _ arI) 0 rfl (by decide) (by decide) (by decide) d3_init_33 (fun a4 => ?_)
  refine x_w (w' := [(o, .inr (3, [.ref a1, .ref a2, .ref a3, .null, .null, .int (nI 0), .int (nI 0), .int (nI 0), .int (nI 0), .int (nI 0), .int (nI 0), .int (nI 0), .int (nI 0)])), (a1, .inl (cI, 5, .inl (fun _ => 0))), (a2, .inl (cI, 155, .inl (fun _ => 0))), (a3, .inl (cI, 155, .inl (fun _ => 0))), (a4, .inl (cI, 155, .inl (fun _ => 0)))]) rfl ?_
  refine x_putF (w' := [(o, .inr (3, [.ref a1, .ref a2, .ref a3, .ref a4, .null, .int (nI 0), .int (nI 0), .int (nI 0), .int (nI 0), .int (nI 0), .int (nI 0), .int (nI 0), .int (nI 0)])), (a1, .inl (cI, 5, .inl (fun _ => 0))), (a2, .inl (cI, 155, .inl (fun _ => 0))), (a3, .inl (cI, 155, .inl (fun _ => 0))), (a4, .inl (cI, 155, .inl (fun _ => 0)))]) (ty := .array .int) h hinit (pc' := 38) rfl (fun c q => List.mem_cons_of_mem _ (in3 c q)) ok3 nm3 0 3 rfl rfl (by decide) (List.mem_cons_of_mem _ lk3_19) rfl rfl rfl rfl rfl rfl (Nat.le_of_ble_eq_true rfl) rfl d3_init_35 ?_
  refine x_aload_n h (pc' := 39) rfl d3_init_38 0 rfl rfl ?_
  refine x_iconst (v := (nI 3)) h (pc' := 40) rfl d3_init_39 (by decide) ?_
  refine x_newz h hA (pc' := 42) rfl (List.mem_cons_of_mem _ arZ) 1 rfl (by decide) (by decide) (by decide) d3_init_40 (fun a5 => ?_)
  refine x_w (w' := [(o, .inr (3, [.ref a1, .ref a2, .ref a3, .ref a4, .null, .int (nI 0), .int (nI 0), .int (nI 0), .int (nI 0), .int (nI 0), .int (nI 0), .int (nI 0), .int (nI 0)])), (a1, .inl (cI, 5, .inl (fun _ => 0))), (a2, .inl (cI, 155, .inl (fun _ => 0))), (a3, .inl (cI, 155, .inl (fun _ => 0))), (a4, .inl (cI, 155, .inl (fun _ => 0))), (a5, .inl (cZ, 3, .inl (fun _ => 0)))]) rfl ?_
  refine x_putF (w' := [(o, .inr (3, [.ref a1, .ref a2, .ref a3, .ref a4, .ref a5, .int (nI 0), .int (nI 0), .int (nI 0), .int (nI 0), .int (nI 0), .int (nI 0), .int (nI 0), .int (nI 0)])), (a1, .inl (cI, 5, .inl (fun _ => 0))), (a2, .inl (cI, 155, .inl (fun _ => 0))), (a3, .inl (cI, 155, .inl (fun _ => 0))), (a4, .inl (cI, 155, .inl (fun _ => 0))), (a5, .inl (cZ, 3, .inl (fun _ => 0)))]) (ty := .array .boolean) h hinit (pc' := 45) rfl (fun c q => List.mem_cons_of_mem _ (in3 c q)) ok3 nm3 0 4 rfl rfl (by decide) (List.mem_cons_of_mem _ lk3_22) rfl rfl rfl rfl rfl rfl (Nat.le_of_ble_eq_true rfl) rfl d3_init_42 ?_
  refine x_aload_n h (pc' := 46) rfl d3_init_45 0 rfl rfl ?_
  refine x_iconst (v := (-1)) h (pc' := 47) rfl d3_init_46 (by decide) ?_
  refine x_put (w' := [(o, .inr (3, [.ref a1, .ref a2, .ref a3, .ref a4, .ref a5, .int (nI 0), .int (nI 0), .int (nI 0), .int (nI 0), .int (nI 0), .int (-1), .int (nI 0), .int (nI 0)])), (a1, .inl (cI, 5, .inl (fun _ => 0))), (a2, .inl (cI, 155, .inl (fun _ => 0))), (a3, .inl (cI, 155, .inl (fun _ => 0))), (a4, .inl (cI, 155, .inl (fun _ => 0))), (a5, .inl (cZ, 3, .inl (fun _ => 0)))]) (ty := .int) h (pc' := 50) rfl (fun c q => List.mem_cons_of_mem _ (in3 c q)) ok3 nm3 0 10 rfl rfl (by decide) (List.mem_cons_of_mem _ lk3_26) rfl rfl rfl rfl rfl (Nat.le_of_ble_eq_true rfl) rfl d3_init_47 ?_
  exact hret _ _ _ d3_init_50 ⟨a1, a2, a3, a4, a5, rfl⟩
