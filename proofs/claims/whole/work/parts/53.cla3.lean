/-- what the class's put does -/
def puC (A : Nat → Nat) (cI cZ cS : ClassId) (fk0 fv0 fr0 fd0 : Nat → Int32) (n0 : Nat) (fk3 fv3 fr3 fd3 : Nat → Int32) (n3 : Nat) (fk1 fv1 fr1 fd1 : Nat → Int32) (n1 : Nat) (fk2 fv2 fr2 fd2 : Nat → Int32) (n2 : Nat) (ft fu : Nat → Int32) (iu : Int32) (dn rs rf : Bool) (ct ev fe : Int32) (d0 d1 d2 : Nat → Nat) (t1 t2 : Bool) (key value r : Int32) (w' : va_W) : Prop :=
  (dn = true ∧ r = -1 ∧ w' = (wX A cI cZ cS fk0 fv0 fr0 fd0 (nI n0) fk3 fv3 fr3 fd3 (nI n3) fk1 fv1 fr1 fd1 (nI n1) fk2 fv2 fr2 fd2 (nI n2) ft fu iu (bi dn) (bi rs) (bi rf) ct ev fe)) ∨ (dn = false ∧ ¬ ((¬ key < 0 ∧ ¬ 4095 < key) ∧ (¬ value < 0 ∧ ¬ 999999999 < value)) ∧ r = -3 ∧ w' = (wX A cI cZ cS fk0 fv0 fr0 fd0 (nI n0) fk3 fv3 fr3 fd3 (nI n3) fk1 fv1 fr1 fd1 (nI n1) fk2 fv2 fr2 fd2 (nI n2) ft fu iu (bi dn) (bi rs) (bi rf) ct ev fe)) ∨ (dn = false ∧ ((¬ key < 0 ∧ ¬ 4095 < key) ∧ (¬ value < 0 ∧ ¬ 999999999 < value)) ∧ ((∃ x, fnK fk0 n0 key = some x ∧ fv0 x = value ∧ r = 0 ∧ w' = (wX A cI cZ cS fk0 fv0 fr0 fd0 (nI n0) fk3 fv3 fr3 fd3 (nI n3) fk1 fv1 fr1 fd1 (nI n1) fk2 fv2 fr2 fd2 (nI n2) ft fu iu (bi dn) (bi rs) (bi rf) ct ev fe)) ∨ (∃ x, fnK fk0 n0 key = some x ∧ fv0 x ≠ value ∧ chC A cI cZ cS fk0 fv0 fr0 fd0 n0 (va_cpy fk0 fk3 0 0 n0) (upd (va_cpy fv0 fv3 0 0 n0) x value) (va_cpy fr0 fr3 0 0 n0) (va_cpy fd0 fd3 0 0 n0) n0 fk1 fv1 fr1 fd1 n1 fk2 fv2 fr2 fd2 n2 ft fu iu (bi dn) (bi rs) (bi rf) ct ev fe d0 d1 d2 t1 t2 r w') ∨ (fnK fk0 n0 key = none ∧ 30 ≤ n0 ∧ r = -5 ∧ w' = (wX A cI cZ cS fk0 fv0 fr0 fd0 (nI n0) fk3 fv3 fr3 fd3 (nI n3) fk1 fv1 fr1 fd1 (nI n1) fk2 fv2 fr2 fd2 (nI n2) ft fu iu (bi dn) (bi rs) (bi rf) ct ev fe)) ∨ (fnK fk0 n0 key = none ∧ ¬ 30 ≤ n0 ∧ chC A cI cZ cS fk0 fv0 fr0 fd0 n0 (insF (va_cpy fk0 fk3 0 0 n0) (lbN (va_cpy fk0 fk3 0 0 n0) n0 key) n0 key) (insF (va_cpy fv0 fv3 0 0 n0) (lbN (va_cpy fk0 fk3 0 0 n0) n0 key) n0 value) (insF (va_cpy fr0 fr3 0 0 n0) (lbN (va_cpy fk0 fk3 0 0 n0) n0 key) n0 (rk key)) (insF (va_cpy fd0 fd3 0 0 n0) (lbN (va_cpy fk0 fk3 0 0 n0) n0 key) n0 (-1)) (n0 + 1) fk1 fv1 fr1 fd1 n1 fk2 fv2 fr2 fd2 n2 ft fu iu (bi dn) (bi rs) (bi rf) ct ev fe d0 d1 d2 t1 t2 r w')))
set_option maxRecDepth 100000 in
set_option maxHeartbeats 4000000 in
theorem k2_put (l : Launch) (D : va_G) (cI cZ cS : ClassId) (A : Nat → Nat) (fk0 fv0 fr0 fd0 : Nat → Int32) (n0 : Nat) (fk3 fv3 fr3 fd3 : Nat → Int32) (n3 : Nat) (fk1 fv1 fr1 fd1 : Nat → Int32) (n1 : Nat) (fk2 fv2 fr2 fd2 : Nat → Int32) (n2 : Nat) (ft fu : Nat → Int32) (iu : Int32) (dn rs rf : Bool) (ct ev fe : Int32) (h0 : n0 ≤ 30) (h3 : n3 ≤ 30) (h1 : n1 ≤ 30) (h2 : n2 ≤ 30) (t1 t2 : Bool) (u1 : ft 0 = bi t1) (u2 : ft 1 = bi t2) (d0 d1 d2 : Nat → Nat) (hd0 : isD fd0 d0 n0) (hd1 : t1 = true → isD fd1 d1 n1) (hd2 : t2 = true → isD fd2 d2 n2) (hK0 : inc fk0 n0) (key value : Int32) : CI l y2_put w2_put (rmd 5) D (TS3 cI cZ cS) [.ref (A 0), .int key, .int value] (wX A cI cZ cS fk0 fv0 fr0 fd0 (nI n0) fk3 fv3 fr3 fd3 (nI n3) fk1 fv1 fr1 fd1 (nI n1) fk2 fv2 fr2 fd2 (nI n2) ft fu iu (bi dn) (bi rs) (bi rf) ct ev fe) (fun r w' => puC A cI cZ cS fk0 fv0 fr0 fd0 n0 fk3 fv3 fr3 fd3 n3 fk1 fv1 fr1 fd1 n1 fk2 fv2 fr2 fd2 n2 ft fu iu dn rs rf ct ev fe d0 d1 d2 t1 t2 key value r w') := by
  refine x_metI (lv := [(0, .ref (A 0)), (1, .int key), (2, .int value)]) (by decide +kernel) rfl rfl (Nat.le_of_ble_eq_true rfl) rfl ?_
  intro X h hret
  unfold puC at hret
  refine x_aload_n h (pc' := 1) rfl d2_put_0 0 rfl rfl ?_
  refine x_get h (pc' := 4) rfl (fun c q => List.mem_cons_of_mem _ (in2 c q)) 0 5 rfl rfl (by decide) (List.mem_cons_of_mem _ lk2_38) rfl rfl d2_put_1 ?_
  refine x_if_eq (tg := 9) h (pc' := 7) rfl d2_put_4 (by decide) (bi_0 _) (fun c4 => ?_) (fun c4 => ?_)
  · skip
    refine x_iload_n h (pc' := 10) rfl d2_put_9 1 rfl rfl ?_
    -- isKey
    refine x_sI h (pc' := 13) rfl [.int key] (k2_isKey l D cI cZ cS key) d2_put_10 1 (gd_S ml2_42 st2_isKey ini2 cd2_isKey) rfl ⟨rfl, rfl⟩ hd2_isKey ⟨by decide, by decide⟩ ⟨Nat.zero_le _, Nat.zero_le _⟩ [] rfl rfl rfl (Nat.le_of_ble_eq_true rfl) rfl (fun rr10 ww10 pp10 ee10 => ?_)
    obtain ⟨rfl, rfl⟩ := pp10
    refine x_w (w' := (wX A cI cZ cS fk0 fv0 fr0 fd0 (nI n0) fk3 fv3 fr3 fd3 (nI n3) fk1 fv1 fr1 fd1 (nI n1) fk2 fv2 fr2 fd2 (nI n2) ft fu iu (bi dn) (bi rs) (bi rf) ct ev fe)) rfl ?_
    refine x_if_eq (tg := 23) h (pc' := 16) rfl d2_put_13 (by decide) (bi_0 _) (fun c13 => ?_) (fun c13 => ?_)
    · skip
      refine x_bipush (v := (-3)) h (pc' := 25) rfl d2_put_23 (by decide) ?_
      exact hret _ _ _ _ d2_put_25 rfl (Or.inr (Or.inl ⟨c4, fun q => (by first | exact of_decide_eq_false c13 q.1 | exact of_decide_eq_false c20 q.2), rfl, rfl⟩))
    · skip
      refine x_iload_n h (pc' := 17) rfl d2_put_16 2 rfl rfl ?_
      -- isValue
      refine x_sI h (pc' := 20) rfl [.int value] (k2_isValue l D cI cZ cS value) d2_put_17 1 (gd_S ml2_46 st2_isValue ini2 cd2_isValue) rfl ⟨rfl, rfl⟩ hd2_isValue ⟨by decide, by decide⟩ ⟨Nat.zero_le _, Nat.zero_le _⟩ [] rfl rfl rfl (Nat.le_of_ble_eq_true rfl) rfl (fun rr17 ww17 pp17 ee17 => ?_)
      obtain ⟨rfl, rfl⟩ := pp17
      refine x_w (w' := (wX A cI cZ cS fk0 fv0 fr0 fd0 (nI n0) fk3 fv3 fr3 fd3 (nI n3) fk1 fv1 fr1 fd1 (nI n1) fk2 fv2 fr2 fd2 (nI n2) ft fu iu (bi dn) (bi rs) (bi rf) ct ev fe)) rfl ?_
      refine x_if_ne (tg := 26) h (pc' := 23) rfl d2_put_20 (by decide) (bi_0 _) (fun c20 => ?_) (fun c20 => ?_)
      · skip
        refine x_aload_n h (pc' := 27) rfl d2_put_26 0 rfl rfl ?_
        refine x_get h (pc' := 30) rfl (fun c q => List.mem_cons_of_mem _ (in2 c q)) 0 0 rfl rfl (by decide) (List.mem_cons_of_mem _ lk2_10) rfl rfl d2_put_27 ?_
        refine x_iload_n h (pc' := 31) rfl d2_put_30 1 rfl rfl ?_
        -- indexOf
        refine x_vI h (pc' := 34) rfl [.int key] (k1_indexOf l D cI cZ cS (A 1) (A 2) (A 3) (A 4) (A 5) fk0 fv0 fr0 fd0 n0 (by omega) hK0 key) d2_put_31 1 (gd_V ml2_49 im1_indexOf se1_indexOf ini1 cd1_indexOf) rfl ⟨rfl, rfl⟩ hd1_indexOf ⟨by decide, by decide⟩ ⟨Nat.zero_le _, Nat.zero_le _⟩ 1 rfl rfl rfl [1, 2, 3, 4, 5] rfl rfl rfl (Nat.le_of_ble_eq_true rfl) rfl (fun rr31 ww31 pp31 ee31 => ?_)
        obtain ⟨rfl, rfl⟩ := pp31
        rcases hq : fnK fk0 n0 key with _ | x
        · skip
          refine x_w (w' := (wX A cI cZ cS fk0 fv0 fr0 fd0 (nI n0) fk3 fv3 fr3 fd3 (nI n3) fk1 fv1 fr1 fd1 (nI n1) fk2 fv2 fr2 fd2 (nI n2) ft fu iu (bi dn) (bi rs) (bi rf) ct ev fe)) rfl ?_
          refine x_top (y := (-1)) rfl ?_
          refine x_istore_n (lv' := [(3, .int (-1)), (0, .ref (A 0)), (1, .int key), (2, .int value)]) h (pc' := 35) rfl d2_put_34 rfl (by decide) rfl ?_
          refine x_iload_n h (pc' := 36) rfl d2_put_35 0 rfl rfl ?_
          refine x_iconst (v := (-1)) h (pc' := 37) rfl d2_put_36 (by decide) ?_
          refine x_icmp_eq (tg := 55) h (pc' := 40) rfl d2_put_37 (by decide) Iff.rfl (fun c37 => ?_) (fun c37 => ?_)
          · skip
            refine x_iload_n h (pc' := 56) rfl d2_put_55 0 rfl rfl ?_
            refine x_iconst (v := (-1)) h (pc' := 57) rfl d2_put_56 (by decide) ?_
            refine x_icmp_ne (tg := 75) h (pc' := 60) rfl d2_put_57 (by decide) Iff.rfl (fun c57 => ?_) (fun c57 => ?_)
            · skip
              exact absurd rfl c57
            · skip
              refine x_aload_n h (pc' := 61) rfl d2_put_60 1 rfl rfl ?_
              refine x_get h (pc' := 64) rfl (fun c q => List.mem_cons_of_mem _ (in2 c q)) 0 0 rfl rfl (by decide) (List.mem_cons_of_mem _ lk2_10) rfl rfl d2_put_61 ?_
              refine x_get h (pc' := 67) rfl (fun c q => List.mem_cons_of_mem _ (in1 c q)) 1 4 rfl rfl (by decide) (List.mem_cons_of_mem _ lk2_57) rfl rfl d2_put_64 ?_
              refine x_bipush (v := (nI 30)) h (pc' := 69) rfl d2_put_67 (by decide) ?_
              refine x_icmp_lt (tg := 75) h (pc' := 72) rfl d2_put_69 (by decide) (nI_ltI (by omega) (by omega)) (fun c69 => ?_) (fun c69 => ?_)
              · skip
                refine x_aload_n h (pc' := 76) rfl d2_put_75 1 rfl rfl ?_
                refine x_get h (pc' := 79) rfl (fun c q => List.mem_cons_of_mem _ (in2 c q)) 0 1 rfl rfl (by decide) (List.mem_cons_of_mem _ lk2_16) rfl rfl d2_put_76 ?_
                refine x_aload_n h (pc' := 80) rfl d2_put_79 1 rfl rfl ?_
                refine x_get h (pc' := 83) rfl (fun c q => List.mem_cons_of_mem _ (in2 c q)) 0 0 rfl rfl (by decide) (List.mem_cons_of_mem _ lk2_10) rfl rfl d2_put_80 ?_
                -- copyFrom
                refine x_vV h (pc' := 86) rfl [.ref (A 1)] (k1_copyFrom l D cI cZ cS (A 6) (A 7) (A 8) (A 9) (A 10) fk3 fv3 fr3 fd3 n3 (by omega) (A 1) (A 2) (A 3) (A 4) (A 5) fk0 fv0 fr0 fd0 n0 (by omega)) d2_put_83 1 (gd_V ml2_60 im1_copyFrom se1_copyFrom ini1 cd1_copyFrom) rfl ⟨rfl, rfl⟩ hd1_copyFrom ⟨by decide, by decide⟩ ⟨Nat.zero_le _, Nat.zero_le _⟩ 6 rfl rfl rfl [6, 7, 8, 9, 10, 1, 2, 3, 4, 5] rfl rfl rfl (Nat.le_of_ble_eq_true rfl) rfl (fun ww83 pp83 ee83 => ?_)
                subst pp83
                refine x_w (w' := (wX A cI cZ cS fk0 fv0 fr0 fd0 (nI n0) (va_cpy fk0 fk3 0 0 n0) (va_cpy fv0 fv3 0 0 n0) (va_cpy fr0 fr3 0 0 n0) (va_cpy fd0 fd3 0 0 n0) (nI n0) fk1 fv1 fr1 fd1 (nI n1) fk2 fv2 fr2 fd2 (nI n2) ft fu iu (bi dn) (bi rs) (bi rf) ct ev fe)) rfl ?_
                refine x_iload_n h (pc' := 87) rfl d2_put_86 0 rfl rfl ?_
                refine x_iconst (v := (-1)) h (pc' := 88) rfl d2_put_87 (by decide) ?_
                refine x_icmp_ne (tg := 103) h (pc' := 91) rfl d2_put_88 (by decide) Iff.rfl (fun c88 => ?_) (fun c88 => ?_)
                · skip
                  exact absurd rfl c88
                · skip
                  refine x_aload_n h (pc' := 92) rfl d2_put_91 1 rfl rfl ?_
                  refine x_get h (pc' := 95) rfl (fun c q => List.mem_cons_of_mem _ (in2 c q)) 0 1 rfl rfl (by decide) (List.mem_cons_of_mem _ lk2_16) rfl rfl d2_put_92 ?_
                  refine x_iload_n h (pc' := 96) rfl d2_put_95 2 rfl rfl ?_
                  refine x_iload_n h (pc' := 97) rfl d2_put_96 3 rfl rfl ?_
                  -- insert
                  refine x_vV h (pc' := 100) rfl [.int key, .int value] (k1_insert l D cI cZ cS (A 6) (A 7) (A 8) (A 9) (A 10) (va_cpy fk0 fk3 0 0 n0) (va_cpy fv0 fv3 0 0 n0) (va_cpy fr0 fr3 0 0 n0) (va_cpy fd0 fd3 0 0 n0) n0 (by omega) key value) d2_put_97 2 (gd_V ml2_64 im1_insert se1_insert ini1 cd1_insert) rfl ⟨rfl, rfl⟩ hd1_insert ⟨by decide, by decide⟩ ⟨Nat.zero_le _, Nat.zero_le _⟩ 6 rfl rfl rfl [6, 7, 8, 9, 10] rfl rfl rfl (Nat.le_of_ble_eq_true rfl) rfl (fun ww97 pp97 ee97 => ?_)
                  subst pp97
                  refine x_w (w' := (wX A cI cZ cS fk0 fv0 fr0 fd0 (nI n0) (insF (va_cpy fk0 fk3 0 0 n0) (lbN (va_cpy fk0 fk3 0 0 n0) n0 key) n0 key) (insF (va_cpy fv0 fv3 0 0 n0) (lbN (va_cpy fk0 fk3 0 0 n0) n0 key) n0 value) (insF (va_cpy fr0 fr3 0 0 n0) (lbN (va_cpy fk0 fk3 0 0 n0) n0 key) n0 (rk key)) (insF (va_cpy fd0 fd3 0 0 n0) (lbN (va_cpy fk0 fk3 0 0 n0) n0 key) n0 (-1)) (nI (n0 + 1)) fk1 fv1 fr1 fd1 (nI n1) fk2 fv2 fr2 fd2 (nI n2) ft fu iu (bi dn) (bi rs) (bi rf) ct ev fe)) rfl ?_
                  refine x_goto (pc' := 113) h d2_put_100 (by decide) ?_
                  refine x_aload_n h (pc' := 114) rfl d2_put_113 1 rfl rfl ?_
                  -- changeToDraft
                  refine x_vI h (pc' := 117) rfl [] (k2_changeToDraft l D cI cZ cS A fk0 fv0 fr0 fd0 n0 (insF (va_cpy fk0 fk3 0 0 n0) (lbN (va_cpy fk0 fk3 0 0 n0) n0 key) n0 key) (insF (va_cpy fv0 fv3 0 0 n0) (lbN (va_cpy fk0 fk3 0 0 n0) n0 key) n0 value) (insF (va_cpy fr0 fr3 0 0 n0) (lbN (va_cpy fk0 fk3 0 0 n0) n0 key) n0 (rk key)) (insF (va_cpy fd0 fd3 0 0 n0) (lbN (va_cpy fk0 fk3 0 0 n0) n0 key) n0 (-1)) (n0 + 1) fk1 fv1 fr1 fd1 n1 fk2 fv2 fr2 fd2 n2 ft fu iu (bi dn) (bi rs) (bi rf) ct ev fe h0 (by omega) h1 h2 t1 t2 u1 u2 d0 d1 d2 hd0 hd1 hd2 hK0) d2_put_114 0 (gd_V ml2_68 im2_changeToDraft se2_changeToDraft ini2 cd2_changeToDraft) rfl ⟨rfl, rfl⟩ hd2_changeToDraft ⟨by decide, by decide⟩ ⟨Nat.zero_le _, Nat.zero_le _⟩ 0 rfl rfl rfl [0, 1, 2, 3, 4, 5, 6, 7, 8, 9, 10, 11, 12, 13, 14, 15, 16, 17, 18, 19, 20, 21, 22, 23, 24] nd25 (map25 rfl) rfl (Nat.le_of_ble_eq_true rfl) rfl (fun rr114 ww114 pp114 ee114 => ?_)
                  refine x_w (w' := ww114) (putB25 _ rfl (by simpa using congrArg List.length ee114)) ?_
                  exact hret _ _ _ _ d2_put_117 ee114 (Or.inr (Or.inr ⟨c4, ⟨of_decide_eq_true (ne_f c13), of_decide_eq_true (ne_f c20)⟩, Or.inr (Or.inr (Or.inr ⟨hq, by omega, pp114⟩))⟩))
              · skip
                refine x_bipush (v := (-5)) h (pc' := 74) rfl d2_put_72 (by decide) ?_
                exact hret _ _ _ _ d2_put_74 rfl (Or.inr (Or.inr ⟨c4, ⟨of_decide_eq_true (ne_f c13), of_decide_eq_true (ne_f c20)⟩, Or.inr (Or.inr (Or.inl ⟨hq, by omega, rfl, rfl⟩))⟩))
          · skip
            exact absurd rfl c37
        · skip
          have hb := fnK_some hq
          refine x_w (w' := (wX A cI cZ cS fk0 fv0 fr0 fd0 (nI n0) fk3 fv3 fr3 fd3 (nI n3) fk1 fv1 fr1 fd1 (nI n1) fk2 fv2 fr2 fd2 (nI n2) ft fu iu (bi dn) (bi rs) (bi rf) ct ev fe)) rfl ?_
          refine x_top (y := (nI x)) rfl ?_
          refine x_istore_n (lv' := [(3, .int (nI x)), (0, .ref (A 0)), (1, .int key), (2, .int value)]) h (pc' := 35) rfl d2_put_34 rfl (by decide) rfl ?_
          refine x_iload_n h (pc' := 36) rfl d2_put_35 0 rfl rfl ?_
          refine x_iconst (v := (-1)) h (pc' := 37) rfl d2_put_36 (by decide) ?_
          refine x_icmp_eq (tg := 55) h (pc' := 40) rfl d2_put_37 (by decide) (n_m1 (by omega)) (fun c37 => ?_) (fun c37 => ?_)
          · skip
            exact c37.elim
          · skip
            refine x_aload_n h (pc' := 41) rfl d2_put_40 1 rfl rfl ?_
            refine x_get h (pc' := 44) rfl (fun c q => List.mem_cons_of_mem _ (in2 c q)) 0 0 rfl rfl (by decide) (List.mem_cons_of_mem _ lk2_10) rfl rfl d2_put_41 ?_
            refine x_get h (pc' := 47) rfl (fun c q => List.mem_cons_of_mem _ (in1 c q)) 1 1 rfl rfl (by decide) (List.mem_cons_of_mem _ lk2_53) rfl rfl d2_put_44 ?_
            refine x_iload_n h (pc' := 48) rfl d2_put_47 0 rfl rfl ?_
            refine x_iald (v := (fv0 x)) h (pc' := 49) rfl 3 0 rfl rfl (by omega) (by decide) d2_put_48 rfl ?_
            refine x_iload_n h (pc' := 50) rfl d2_put_49 3 rfl rfl ?_
            refine x_icmp_ne (tg := 55) h (pc' := 53) rfl d2_put_50 (by decide) Iff.rfl (fun c50 => ?_) (fun c50 => ?_)
            · skip
              refine x_iload_n h (pc' := 56) rfl d2_put_55 0 rfl rfl ?_
              refine x_iconst (v := (-1)) h (pc' := 57) rfl d2_put_56 (by decide) ?_
              refine x_icmp_ne (tg := 75) h (pc' := 60) rfl d2_put_57 (by decide) (n_m1 (by omega)) (fun c57 => ?_) (fun c57 => ?_)
              · skip
                refine x_aload_n h (pc' := 76) rfl d2_put_75 1 rfl rfl ?_
                refine x_get h (pc' := 79) rfl (fun c q => List.mem_cons_of_mem _ (in2 c q)) 0 1 rfl rfl (by decide) (List.mem_cons_of_mem _ lk2_16) rfl rfl d2_put_76 ?_
                refine x_aload_n h (pc' := 80) rfl d2_put_79 1 rfl rfl ?_
                refine x_get h (pc' := 83) rfl (fun c q => List.mem_cons_of_mem _ (in2 c q)) 0 0 rfl rfl (by decide) (List.mem_cons_of_mem _ lk2_10) rfl rfl d2_put_80 ?_
                -- copyFrom
                refine x_vV h (pc' := 86) rfl [.ref (A 1)] (k1_copyFrom l D cI cZ cS (A 6) (A 7) (A 8) (A 9) (A 10) fk3 fv3 fr3 fd3 n3 (by omega) (A 1) (A 2) (A 3) (A 4) (A 5) fk0 fv0 fr0 fd0 n0 (by omega)) d2_put_83 1 (gd_V ml2_60 im1_copyFrom se1_copyFrom ini1 cd1_copyFrom) rfl ⟨rfl, rfl⟩ hd1_copyFrom ⟨by decide, by decide⟩ ⟨Nat.zero_le _, Nat.zero_le _⟩ 6 rfl rfl rfl [6, 7, 8, 9, 10, 1, 2, 3, 4, 5] rfl rfl rfl (Nat.le_of_ble_eq_true rfl) rfl (fun ww83 pp83 ee83 => ?_)
                subst pp83
                refine x_w (w' := (wX A cI cZ cS fk0 fv0 fr0 fd0 (nI n0) (va_cpy fk0 fk3 0 0 n0) (va_cpy fv0 fv3 0 0 n0) (va_cpy fr0 fr3 0 0 n0) (va_cpy fd0 fd3 0 0 n0) (nI n0) fk1 fv1 fr1 fd1 (nI n1) fk2 fv2 fr2 fd2 (nI n2) ft fu iu (bi dn) (bi rs) (bi rf) ct ev fe)) rfl ?_
                refine x_iload_n h (pc' := 87) rfl d2_put_86 0 rfl rfl ?_
                refine x_iconst (v := (-1)) h (pc' := 88) rfl d2_put_87 (by decide) ?_
                refine x_icmp_ne (tg := 103) h (pc' := 91) rfl d2_put_88 (by decide) (n_m1 (by omega)) (fun c88 => ?_) (fun c88 => ?_)
                · skip
                  refine x_aload_n h (pc' := 104) rfl d2_put_103 1 rfl rfl ?_
                  refine x_get h (pc' := 107) rfl (fun c q => List.mem_cons_of_mem _ (in2 c q)) 0 1 rfl rfl (by decide) (List.mem_cons_of_mem _ lk2_16) rfl rfl d2_put_104 ?_
                  refine x_get h (pc' := 110) rfl (fun c q => List.mem_cons_of_mem _ (in1 c q)) 6 1 rfl rfl (by decide) (List.mem_cons_of_mem _ lk2_53) rfl rfl d2_put_107 ?_
                  refine x_iload_n h (pc' := 111) rfl d2_put_110 0 rfl rfl ?_
                  refine x_iload_n h (pc' := 112) rfl d2_put_111 3 rfl rfl ?_
                  refine x_iast (w' := (wX A cI cZ cS fk0 fv0 fr0 fd0 (nI n0) (va_cpy fk0 fk3 0 0 n0) (upd (va_cpy fv0 fv3 0 0 n0) x value) (va_cpy fr0 fr3 0 0 n0) (va_cpy fd0 fd3 0 0 n0) (nI n0) fk1 fv1 fr1 fd1 (nI n1) fk2 fv2 fr2 fd2 (nI n2) ft fu iu (bi dn) (bi rs) (bi rf) ct ev fe)) h (pc' := 113) rfl 8 0 rfl rfl (by omega) (by decide) d2_put_112 rfl ?_
                  refine x_aload_n h (pc' := 114) rfl d2_put_113 1 rfl rfl ?_
                  -- changeToDraft
                  refine x_vI h (pc' := 117) rfl [] (k2_changeToDraft l D cI cZ cS A fk0 fv0 fr0 fd0 n0 (va_cpy fk0 fk3 0 0 n0) (upd (va_cpy fv0 fv3 0 0 n0) x value) (va_cpy fr0 fr3 0 0 n0) (va_cpy fd0 fd3 0 0 n0) n0 fk1 fv1 fr1 fd1 n1 fk2 fv2 fr2 fd2 n2 ft fu iu (bi dn) (bi rs) (bi rf) ct ev fe h0 (by omega) h1 h2 t1 t2 u1 u2 d0 d1 d2 hd0 hd1 hd2 hK0) d2_put_114 0 (gd_V ml2_68 im2_changeToDraft se2_changeToDraft ini2 cd2_changeToDraft) rfl ⟨rfl, rfl⟩ hd2_changeToDraft ⟨by decide, by decide⟩ ⟨Nat.zero_le _, Nat.zero_le _⟩ 0 rfl rfl rfl [0, 1, 2, 3, 4, 5, 6, 7, 8, 9, 10, 11, 12, 13, 14, 15, 16, 17, 18, 19, 20, 21, 22, 23, 24] nd25 (map25 rfl) rfl (Nat.le_of_ble_eq_true rfl) rfl (fun rr114 ww114 pp114 ee114 => ?_)
                  refine x_w (w' := ww114) (putB25 _ rfl (by simpa using congrArg List.length ee114)) ?_
                  exact hret _ _ _ _ d2_put_117 ee114 (Or.inr (Or.inr ⟨c4, ⟨of_decide_eq_true (ne_f c13), of_decide_eq_true (ne_f c20)⟩, Or.inr (Or.inl ⟨x, hq, c50, pp114⟩)⟩))
                · skip
                  exact c88.elim
              · skip
                exact c57.elim
            · skip
              refine x_iconst (v := (nI 0)) h (pc' := 54) rfl d2_put_53 (by decide) ?_
              exact hret _ _ _ _ d2_put_54 rfl (Or.inr (Or.inr ⟨c4, ⟨of_decide_eq_true (ne_f c13), of_decide_eq_true (ne_f c20)⟩, Or.inl ⟨x, hq, c50, rfl, rfl⟩⟩))
      · skip
        refine x_bipush (v := (-3)) h (pc' := 25) rfl d2_put_23 (by decide) ?_
        exact hret _ _ _ _ d2_put_25 rfl (Or.inr (Or.inl ⟨c4, fun q => (by first | exact of_decide_eq_false c13 q.1 | exact of_decide_eq_false c20 q.2), rfl, rfl⟩))
  · skip
    refine x_iconst (v := (-1)) h (pc' := 8) rfl d2_put_7 (by decide) ?_
    exact hret _ _ _ _ d2_put_8 rfl (Or.inl ⟨ne_f c4, rfl, rfl⟩)
/-- what the class's remove does -/
def rmC (A : Nat → Nat) (cI cZ cS : ClassId) (fk0 fv0 fr0 fd0 : Nat → Int32) (n0 : Nat) (fk3 fv3 fr3 fd3 : Nat → Int32) (n3 : Nat) (fk1 fv1 fr1 fd1 : Nat → Int32) (n1 : Nat) (fk2 fv2 fr2 fd2 : Nat → Int32) (n2 : Nat) (ft fu : Nat → Int32) (iu : Int32) (dn rs rf : Bool) (ct ev fe : Int32) (d0 d1 d2 : Nat → Nat) (t1 t2 : Bool) (key r : Int32) (w' : va_W) : Prop :=
  (dn = true ∧ r = -1 ∧ w' = (wX A cI cZ cS fk0 fv0 fr0 fd0 (nI n0) fk3 fv3 fr3 fd3 (nI n3) fk1 fv1 fr1 fd1 (nI n1) fk2 fv2 fr2 fd2 (nI n2) ft fu iu (bi dn) (bi rs) (bi rf) ct ev fe)) ∨ (dn = false ∧ fnK fk0 n0 key = none ∧ r = -4 ∧ w' = (wX A cI cZ cS fk0 fv0 fr0 fd0 (nI n0) fk3 fv3 fr3 fd3 (nI n3) fk1 fv1 fr1 fd1 (nI n1) fk2 fv2 fr2 fd2 (nI n2) ft fu iu (bi dn) (bi rs) (bi rf) ct ev fe)) ∨ (dn = false ∧ ∃ x, fnK fk0 n0 key = some x ∧ chC A cI cZ cS fk0 fv0 fr0 fd0 n0 (sdF (va_cpy fk0 fk3 0 0 n0) x (n0 - 1)) (sdF (va_cpy fv0 fv3 0 0 n0) x (n0 - 1)) (sdF (va_cpy fr0 fr3 0 0 n0) x (n0 - 1)) (sdF (va_cpy fd0 fd3 0 0 n0) x (n0 - 1)) (n0 - 1) fk1 fv1 fr1 fd1 n1 fk2 fv2 fr2 fd2 n2 ft fu iu (bi dn) (bi rs) (bi rf) ct ev fe d0 d1 d2 t1 t2 r w')
set_option maxRecDepth 100000 in
set_option maxHeartbeats 4000000 in
theorem k2_remove (l : Launch) (D : va_G) (cI cZ cS : ClassId) (A : Nat → Nat) (fk0 fv0 fr0 fd0 : Nat → Int32) (n0 : Nat) (fk3 fv3 fr3 fd3 : Nat → Int32) (n3 : Nat) (fk1 fv1 fr1 fd1 : Nat → Int32) (n1 : Nat) (fk2 fv2 fr2 fd2 : Nat → Int32) (n2 : Nat) (ft fu : Nat → Int32) (iu : Int32) (dn rs rf : Bool) (ct ev fe : Int32) (h0 : n0 ≤ 30) (h3 : n3 ≤ 30) (h1 : n1 ≤ 30) (h2 : n2 ≤ 30) (t1 t2 : Bool) (u1 : ft 0 = bi t1) (u2 : ft 1 = bi t2) (d0 d1 d2 : Nat → Nat) (hd0 : isD fd0 d0 n0) (hd1 : t1 = true → isD fd1 d1 n1) (hd2 : t2 = true → isD fd2 d2 n2) (hK0 : inc fk0 n0) (key : Int32) : CI l y2_remove w2_remove (rmd 5) D (TS3 cI cZ cS) [.ref (A 0), .int key] (wX A cI cZ cS fk0 fv0 fr0 fd0 (nI n0) fk3 fv3 fr3 fd3 (nI n3) fk1 fv1 fr1 fd1 (nI n1) fk2 fv2 fr2 fd2 (nI n2) ft fu iu (bi dn) (bi rs) (bi rf) ct ev fe) (fun r w' => rmC A cI cZ cS fk0 fv0 fr0 fd0 n0 fk3 fv3 fr3 fd3 n3 fk1 fv1 fr1 fd1 n1 fk2 fv2 fr2 fd2 n2 ft fu iu dn rs rf ct ev fe d0 d1 d2 t1 t2 key r w') := by
  refine x_metI (lv := [(0, .ref (A 0)), (1, .int key)]) (by decide +kernel) rfl rfl (Nat.le_of_ble_eq_true rfl) rfl ?_
  intro X h hret
  unfold rmC at hret
  refine x_aload_n h (pc' := 1) rfl d2_remove_0 0 rfl rfl ?_
  refine x_get h (pc' := 4) rfl (fun c q => List.mem_cons_of_mem _ (in2 c q)) 0 5 rfl rfl (by decide) (List.mem_cons_of_mem _ lk2_38) rfl rfl d2_remove_1 ?_
  refine x_if_eq (tg := 9) h (pc' := 7) rfl d2_remove_4 (by decide) (bi_0 _) (fun c4 => ?_) (fun c4 => ?_)
  · skip
    refine x_aload_n h (pc' := 10) rfl d2_remove_9 0 rfl rfl ?_
    refine x_get h (pc' := 13) rfl (fun c q => List.mem_cons_of_mem _ (in2 c q)) 0 0 rfl rfl (by decide) (List.mem_cons_of_mem _ lk2_10) rfl rfl d2_remove_10 ?_
    refine x_iload_n h (pc' := 14) rfl d2_remove_13 1 rfl rfl ?_
    -- indexOf
    refine x_vI h (pc' := 17) rfl [.int key] (k1_indexOf l D cI cZ cS (A 1) (A 2) (A 3) (A 4) (A 5) fk0 fv0 fr0 fd0 n0 (by omega) hK0 key) d2_remove_14 1 (gd_V ml2_49 im1_indexOf se1_indexOf ini1 cd1_indexOf) rfl ⟨rfl, rfl⟩ hd1_indexOf ⟨by decide, by decide⟩ ⟨Nat.zero_le _, Nat.zero_le _⟩ 1 rfl rfl rfl [1, 2, 3, 4, 5] rfl rfl rfl (Nat.le_of_ble_eq_true rfl) rfl (fun rr14 ww14 pp14 ee14 => ?_)
    obtain ⟨rfl, rfl⟩ := pp14
    rcases hq : fnK fk0 n0 key with _ | x
    · skip
      refine x_w (w' := (wX A cI cZ cS fk0 fv0 fr0 fd0 (nI n0) fk3 fv3 fr3 fd3 (nI n3) fk1 fv1 fr1 fd1 (nI n1) fk2 fv2 fr2 fd2 (nI n2) ft fu iu (bi dn) (bi rs) (bi rf) ct ev fe)) rfl ?_
      refine x_top (y := (-1)) rfl ?_
      refine x_istore_n (lv' := [(2, .int (-1)), (0, .ref (A 0)), (1, .int key)]) h (pc' := 18) rfl d2_remove_17 rfl (by decide) rfl ?_
      refine x_iload_n h (pc' := 19) rfl d2_remove_18 0 rfl rfl ?_
      refine x_iconst (v := (-1)) h (pc' := 20) rfl d2_remove_19 (by decide) ?_
      refine x_icmp_ne (tg := 26) h (pc' := 23) rfl d2_remove_20 (by decide) Iff.rfl (fun c20 => ?_) (fun c20 => ?_)
      · skip
        exact absurd rfl c20
      · skip
        refine x_bipush (v := (-4)) h (pc' := 25) rfl d2_remove_23 (by decide) ?_
        exact hret _ _ _ _ d2_remove_25 rfl (Or.inr (Or.inl ⟨c4, hq, rfl, rfl⟩))
    · skip
      have hb := fnK_some hq
      refine x_w (w' := (wX A cI cZ cS fk0 fv0 fr0 fd0 (nI n0) fk3 fv3 fr3 fd3 (nI n3) fk1 fv1 fr1 fd1 (nI n1) fk2 fv2 fr2 fd2 (nI n2) ft fu iu (bi dn) (bi rs) (bi rf) ct ev fe)) rfl ?_
      refine x_top (y := (nI x)) rfl ?_
      refine x_istore_n (lv' := [(2, .int (nI x)), (0, .ref (A 0)), (1, .int key)]) h (pc' := 18) rfl d2_remove_17 rfl (by decide) rfl ?_
      refine x_iload_n h (pc' := 19) rfl d2_remove_18 0 rfl rfl ?_
      refine x_iconst (v := (-1)) h (pc' := 20) rfl d2_remove_19 (by decide) ?_
      refine x_icmp_ne (tg := 26) h (pc' := 23) rfl d2_remove_20 (by decide) (n_m1 (by omega)) (fun c20 => ?_) (fun c20 => ?_)
      · skip
        refine x_aload_n h (pc' := 27) rfl d2_remove_26 1 rfl rfl ?_
        refine x_get h (pc' := 30) rfl (fun c q => List.mem_cons_of_mem _ (in2 c q)) 0 1 rfl rfl (by decide) (List.mem_cons_of_mem _ lk2_16) rfl rfl d2_remove_27 ?_
        refine x_aload_n h (pc' := 31) rfl d2_remove_30 1 rfl rfl ?_
        refine x_get h (pc' := 34) rfl (fun c q => List.mem_cons_of_mem _ (in2 c q)) 0 0 rfl rfl (by decide) (List.mem_cons_of_mem _ lk2_10) rfl rfl d2_remove_31 ?_
        -- copyFrom
        refine x_vV h (pc' := 37) rfl [.ref (A 1)] (k1_copyFrom l D cI cZ cS (A 6) (A 7) (A 8) (A 9) (A 10) fk3 fv3 fr3 fd3 n3 (by omega) (A 1) (A 2) (A 3) (A 4) (A 5) fk0 fv0 fr0 fd0 n0 (by omega)) d2_remove_34 1 (gd_V ml2_60 im1_copyFrom se1_copyFrom ini1 cd1_copyFrom) rfl ⟨rfl, rfl⟩ hd1_copyFrom ⟨by decide, by decide⟩ ⟨Nat.zero_le _, Nat.zero_le _⟩ 6 rfl rfl rfl [6, 7, 8, 9, 10, 1, 2, 3, 4, 5] rfl rfl rfl (Nat.le_of_ble_eq_true rfl) rfl (fun ww34 pp34 ee34 => ?_)
        subst pp34
        refine x_w (w' := (wX A cI cZ cS fk0 fv0 fr0 fd0 (nI n0) (va_cpy fk0 fk3 0 0 n0) (va_cpy fv0 fv3 0 0 n0) (va_cpy fr0 fr3 0 0 n0) (va_cpy fd0 fd3 0 0 n0) (nI n0) fk1 fv1 fr1 fd1 (nI n1) fk2 fv2 fr2 fd2 (nI n2) ft fu iu (bi dn) (bi rs) (bi rf) ct ev fe)) rfl ?_
        refine x_aload_n h (pc' := 38) rfl d2_remove_37 1 rfl rfl ?_
        refine x_get h (pc' := 41) rfl (fun c q => List.mem_cons_of_mem _ (in2 c q)) 0 1 rfl rfl (by decide) (List.mem_cons_of_mem _ lk2_16) rfl rfl d2_remove_38 ?_
        refine x_iload_n h (pc' := 42) rfl d2_remove_41 0 rfl rfl ?_
        -- removeAt
        refine x_vV h (pc' := 45) rfl [.int (nI x)] (k1_removeAt l D cI cZ cS (A 6) (A 7) (A 8) (A 9) (A 10) (va_cpy fk0 fk3 0 0 n0) (va_cpy fv0 fv3 0 0 n0) (va_cpy fr0 fr3 0 0 n0) (va_cpy fd0 fd3 0 0 n0) n0 (by omega) x hb.1) d2_remove_42 1 (gd_V ml2_72 im1_removeAt se1_removeAt ini1 cd1_removeAt) rfl ⟨rfl, rfl⟩ hd1_removeAt ⟨by decide, by decide⟩ ⟨Nat.zero_le _, Nat.zero_le _⟩ 6 rfl rfl rfl [6, 7, 8, 9, 10] rfl rfl rfl (Nat.le_of_ble_eq_true rfl) rfl (fun ww42 pp42 ee42 => ?_)
        subst pp42
        refine x_w (w' := (wX A cI cZ cS fk0 fv0 fr0 fd0 (nI n0) (sdF (va_cpy fk0 fk3 0 0 n0) x (n0 - 1)) (sdF (va_cpy fv0 fv3 0 0 n0) x (n0 - 1)) (sdF (va_cpy fr0 fr3 0 0 n0) x (n0 - 1)) (sdF (va_cpy fd0 fd3 0 0 n0) x (n0 - 1)) (nI (n0 - 1)) fk1 fv1 fr1 fd1 (nI n1) fk2 fv2 fr2 fd2 (nI n2) ft fu iu (bi dn) (bi rs) (bi rf) ct ev fe)) rfl ?_
        refine x_aload_n h (pc' := 46) rfl d2_remove_45 1 rfl rfl ?_
        -- changeToDraft
        refine x_vI h (pc' := 49) rfl [] (k2_changeToDraft l D cI cZ cS A fk0 fv0 fr0 fd0 n0 (sdF (va_cpy fk0 fk3 0 0 n0) x (n0 - 1)) (sdF (va_cpy fv0 fv3 0 0 n0) x (n0 - 1)) (sdF (va_cpy fr0 fr3 0 0 n0) x (n0 - 1)) (sdF (va_cpy fd0 fd3 0 0 n0) x (n0 - 1)) (n0 - 1) fk1 fv1 fr1 fd1 n1 fk2 fv2 fr2 fd2 n2 ft fu iu (bi dn) (bi rs) (bi rf) ct ev fe h0 (by omega) h1 h2 t1 t2 u1 u2 d0 d1 d2 hd0 hd1 hd2 hK0) d2_remove_46 0 (gd_V ml2_68 im2_changeToDraft se2_changeToDraft ini2 cd2_changeToDraft) rfl ⟨rfl, rfl⟩ hd2_changeToDraft ⟨by decide, by decide⟩ ⟨Nat.zero_le _, Nat.zero_le _⟩ 0 rfl rfl rfl [0, 1, 2, 3, 4, 5, 6, 7, 8, 9, 10, 11, 12, 13, 14, 15, 16, 17, 18, 19, 20, 21, 22, 23, 24] nd25 (map25 rfl) rfl (Nat.le_of_ble_eq_true rfl) rfl (fun rr46 ww46 pp46 ee46 => ?_)
        refine x_w (w' := ww46) (putB25 _ rfl (by simpa using congrArg List.length ee46)) ?_
        exact hret _ _ _ _ d2_remove_49 ee46 (Or.inr (Or.inr ⟨c4, x, hq, pp46⟩))
      · skip
        exact c20.elim
  · skip
    refine x_iconst (v := (-1)) h (pc' := 8) rfl d2_remove_7 (by decide) ?_
    exact hret _ _ _ _ d2_remove_8 rfl (Or.inl ⟨ne_f c4, rfl, rfl⟩)
