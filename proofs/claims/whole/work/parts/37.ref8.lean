/-- what the reference's put does -/
def puR (o a1 a2 a3 a4 a5 : Nat) (cI cZ : ClassId) (fc fk fv fi fh : Nat → Int32) (lf ev fe : Int32) (dn pe so fl : Bool) (n0 m1 m2 made : Nat) (t1 t2 : Bool) (key value r : Int32) (w' : va_W) : Prop :=
  (dn = true ∧ r = -1 ∧ w' = (wR o a1 a2 a3 a4 a5 cI cZ fc fk fv fi fh (nI made) (bi dn) (bi pe) (bi so) (bi fl) lf ev fe)) ∨ (dn = false ∧ (key < 0 ∨ 4095 < key ∨ value < 0 ∨ 999999999 < value) ∧ r = -3 ∧ w' = (wR o a1 a2 a3 a4 a5 cI cZ fc fk fv fi fh (nI made) (bi dn) (bi pe) (bi so) (bi fl) lf ev fe)) ∨ (dn = false ∧ (¬ key < 0 ∧ key ≤ 4095 ∧ ¬ value < 0 ∧ value ≤ 999999999) ∧ ((∃ a, fnK (sec fk 0) n0 key = some a ∧ sec fv 0 a = value ∧ r = 0 ∧ w' = (wR o a1 a2 a3 a4 a5 cI cZ fc fk fv fi fh (nI made) (bi dn) (bi pe) (bi so) (bi fl) lf ev fe)) ∨ (∃ a, fnK (sec fk 0) n0 key = some a ∧ sec fv 0 a ≠ value ∧ chR o a1 a2 a3 a4 a5 cI cZ (upd fc 3 (nI n0)) (va_cpy fk fk (31 * 0) (31 * 3) n0) (upd (va_cpy fv fv (31 * 0) (31 * 3) n0) (93 + a) value) (va_cpy fi fi (31 * 0) (31 * 3) n0) fh (bi dn) (bi pe) (bi so) (bi fl) lf ev fe n0 m1 m2 n0 made t1 t2 r w') ∨ (fnK (sec fk 0) n0 key = none ∧ n0 = 30 ∧ r = -5 ∧ w' = (wR o a1 a2 a3 a4 a5 cI cZ fc fk fv fi fh (nI made) (bi dn) (bi pe) (bi so) (bi fl) lf ev fe)) ∨ (fnK (sec fk 0) n0 key = none ∧ n0 ≠ 30 ∧ chR o a1 a2 a3 a4 a5 cI cZ (upd (upd fc 3 (nI n0)) 3 (nI (n0 + 1))) (insF (va_cpy fk fk (31 * 0) (31 * 3) n0) (93 + (fstF (fun j => decide (key < sec fk 0 j)) n0)) (93 + n0) key) (insF (va_cpy fv fv (31 * 0) (31 * 3) n0) (93 + (fstF (fun j => decide (key < sec fk 0 j)) n0)) (93 + n0) value) (va_cpy fi fi (31 * 0) (31 * 3) n0) fh (bi dn) (bi pe) (bi so) (bi fl) lf ev fe n0 m1 m2 (n0 + 1) made t1 t2 r w')))
set_option maxRecDepth 100000 in
set_option maxHeartbeats 4000000 in
theorem k3_put (l : Launch) (D : va_G) (cI cZ cS : ClassId) (o a1 a2 a3 a4 a5 : Nat) (fc fk fv fi fh : Nat → Int32) (lf ev fe : Int32) (dn pe so fl : Bool) (n0 m1 m2 made : Nat) (t1 t2 : Bool) (h0 : n0 ≤ 30) (h1 : m1 ≤ 31) (h2 : m2 ≤ 31) (hm : made + 31 < 2 ^ 31) (e0 : fc 0 = nI n0) (e1 : fc 1 = nI m1) (e2 : fc 2 = nI m2) (u1 : fh 1 = bi t1) (u2 : fh 2 = bi t2) (key value : Int32) : CI l y3_put w3_put (rmd 6) D (TS3 cI cZ cS) [.ref o, .int key, .int value] (wR o a1 a2 a3 a4 a5 cI cZ fc fk fv fi fh (nI made) (bi dn) (bi pe) (bi so) (bi fl) lf ev fe) (fun r w' => puR o a1 a2 a3 a4 a5 cI cZ fc fk fv fi fh lf ev fe dn pe so fl n0 m1 m2 made t1 t2 key value r w') := by
  refine x_metI (lv := [(0, .ref o), (1, .int key), (2, .int value)]) (by decide +kernel) rfl rfl (Nat.le_of_ble_eq_true rfl) rfl ?_
  intro X h hret
  unfold puR at hret
  have lp : dn = false ∧ (¬ key < 0 ∧ key ≤ 4095 ∧ ¬ value < 0 ∧ value ≤ 999999999) ∧ fnK (sec fk 0) n0 key = none ∧ n0 ≠ 30 → ∀ m : Nat, m ≤ n0 → fstF (fun j => decide (key < sec fk 0 j)) n0 = fstF (fun j => decide (key < sec fk 0 j)) m → WX X 0 0 110 [(4, .int (nI (93 + m))), (3, .int (-1)), (0, .ref o), (1, .int key), (2, .int value)] (wR o a1 a2 a3 a4 a5 cI cZ (upd fc 3 (nI n0)) (shF (va_cpy fk fk (31 * 0) (31 * 3) n0) (93 + m) (93 + n0)) (shF (va_cpy fv fv (31 * 0) (31 * 3) n0) (93 + m) (93 + n0)) (va_cpy fi fi (31 * 0) (31 * 3) n0) fh (nI made) (bi dn) (bi pe) (bi so) (bi fl) lf ev fe) [] := by
    intro hG m
    have hn : n0 ≤ 29 := by omega
    induction m with
    | zero =>
      intro hm0 e
      refine x_iload h (pc' := 112) rfl d3_put_110 0 rfl ?_
      refine x_bipush (v := (nI 93)) h (pc' := 114) rfl d3_put_112 (by decide) ?_
      refine x_icmp_le (tg := 168) h (pc' := 117) rfl d3_put_114 (by decide) (nI_leI (by omega) (by omega)) (fun c114 => ?_) (fun c114 => ?_)
      · skip
        refine x_aload_n h (pc' := 169) rfl d3_put_168 2 rfl rfl ?_
        refine x_get h (pc' := 172) rfl (fun c q => List.mem_cons_of_mem _ (in3 c q)) 0 1 rfl rfl (by decide) (List.mem_cons_of_mem _ lk3_13) rfl rfl d3_put_169 ?_
        refine x_iload h (pc' := 174) rfl d3_put_172 0 rfl ?_
        refine x_iload_n h (pc' := 175) rfl d3_put_174 3 rfl rfl ?_
        refine x_iast (w' := (wR o a1 a2 a3 a4 a5 cI cZ (upd fc 3 (nI n0)) (upd (shF (va_cpy fk fk (31 * 0) (31 * 3) n0) (93 + 0) (93 + n0)) (93 + 0) key) (shF (va_cpy fv fv (31 * 0) (31 * 3) n0) (93 + 0) (93 + n0)) (va_cpy fi fi (31 * 0) (31 * 3) n0) fh (nI made) (bi dn) (bi pe) (bi so) (bi fl) lf ev fe)) h (pc' := 176) rfl 2 0 rfl rfl (by omega) (by decide) d3_put_175 rfl ?_
        refine x_aload_n h (pc' := 177) rfl d3_put_176 2 rfl rfl ?_
        refine x_get h (pc' := 180) rfl (fun c q => List.mem_cons_of_mem _ (in3 c q)) 0 2 rfl rfl (by decide) (List.mem_cons_of_mem _ lk3_16) rfl rfl d3_put_177 ?_
        refine x_iload h (pc' := 182) rfl d3_put_180 0 rfl ?_
        refine x_iload_n h (pc' := 183) rfl d3_put_182 4 rfl rfl ?_
        refine x_iast (w' := (wR o a1 a2 a3 a4 a5 cI cZ (upd fc 3 (nI n0)) (upd (shF (va_cpy fk fk (31 * 0) (31 * 3) n0) (93 + 0) (93 + n0)) (93 + 0) key) (upd (shF (va_cpy fv fv (31 * 0) (31 * 3) n0) (93 + 0) (93 + n0)) (93 + 0) value) (va_cpy fi fi (31 * 0) (31 * 3) n0) fh (nI made) (bi dn) (bi pe) (bi so) (bi fl) lf ev fe)) h (pc' := 184) rfl 3 0 rfl rfl (by omega) (by decide) d3_put_183 rfl ?_
        refine x_aload_n h (pc' := 185) rfl d3_put_184 2 rfl rfl ?_
        refine x_get h (pc' := 188) rfl (fun c q => List.mem_cons_of_mem _ (in3 c q)) 0 0 rfl rfl (by decide) (List.mem_cons_of_mem _ lk3_7) rfl rfl d3_put_185 ?_
        refine x_iconst (v := (nI 3)) h (pc' := 189) rfl d3_put_188 (by decide) ?_
        refine x_dup2 h (pc' := 190) rfl d3_put_189 rfl rfl ?_
        refine x_iald (v := (nI n0)) h (pc' := 191) rfl 1 0 rfl rfl (by omega) (by decide) d3_put_190 pk_us ?_
        refine x_iconst (v := (nI 1)) h (pc' := 192) rfl d3_put_191 (by decide) ?_
        refine x_iadd (z := (nI (n0 + 1))) h (pc' := 193) rfl d3_put_192 (nI_add n0 1) ?_
        refine x_iast (w' := (wR o a1 a2 a3 a4 a5 cI cZ (upd (upd fc 3 (nI n0)) 3 (nI (n0 + 1))) (upd (shF (va_cpy fk fk (31 * 0) (31 * 3) n0) (93 + 0) (93 + n0)) (93 + 0) key) (upd (shF (va_cpy fv fv (31 * 0) (31 * 3) n0) (93 + 0) (93 + n0)) (93 + 0) value) (va_cpy fi fi (31 * 0) (31 * 3) n0) fh (nI made) (bi dn) (bi pe) (bi so) (bi fl) lf ev fe)) h (pc' := 194) rfl 1 0 rfl rfl (by omega) (by decide) d3_put_193 rfl ?_
        refine x_aload_n h (pc' := 195) rfl d3_put_194 2 rfl rfl ?_
        refine x_w (w' := (wR o a1 a2 a3 a4 a5 cI cZ (upd (upd fc 3 (nI n0)) 3 (nI (n0 + 1))) (insF (va_cpy fk fk (31 * 0) (31 * 3) n0) (93 + 0) (93 + n0) key) (insF (va_cpy fv fv (31 * 0) (31 * 3) n0) (93 + 0) (93 + n0) value) (va_cpy fi fi (31 * 0) (31 * 3) n0) fh (nI made) (bi dn) (bi pe) (bi so) (bi fl) lf ev fe)) (by rw [shF_ins, shF_ins]) ?_
        -- change
        refine x_vI h (pc' := 198) rfl [] (k3_change l D cI cZ cS o a1 a2 a3 a4 a5 (upd (upd fc 3 (nI n0)) 3 (nI (n0 + 1))) (insF (va_cpy fk fk (31 * 0) (31 * 3) n0) (93 + 0) (93 + n0) key) (insF (va_cpy fv fv (31 * 0) (31 * 3) n0) (93 + 0) (93 + n0) value) (va_cpy fi fi (31 * 0) (31 * 3) n0) fh (bi dn) (bi pe) (bi so) (bi fl) lf ev fe n0 m1 m2 (n0 + 1) made t1 t2 (by omega) h1 h2 (by omega) hm ((pk_un (by omega)).trans ((pk_un (by omega)).trans e0)) ((pk_un (by omega)).trans ((pk_un (by omega)).trans e1)) ((pk_un (by omega)).trans ((pk_un (by omega)).trans e2)) pk_us u1 u2) d3_put_195 0 (gd_V ml3_92 im3_change se3_change ini3 cd3_change) rfl ⟨rfl, rfl⟩ hd3_change ⟨by decide, by decide⟩ ⟨Nat.zero_le _, Nat.zero_le _⟩ 0 rfl rfl rfl [0, 1, 2, 3, 4, 5] rfl rfl rfl (Nat.le_of_ble_eq_true rfl) rfl (fun rr195 ww195 pp195 ee195 => ?_)
        rw [putB6 _ (by simpa using congrArg List.length ee195)]
        refine hret _ _ _ _ d3_put_198 ee195 (Or.inr (Or.inr ⟨hG.1, hG.2.1, Or.inr (Or.inr (Or.inr ⟨hG.2.2.1, hG.2.2.2, ?_⟩))⟩))
        rw [e, show fstF (fun j => decide (key < sec fk 0 j)) 0 = 0 from rfl]; exact pp195
      · skip
        exact absurd c114 (by omega)
    | succ m ih =>
      intro hm0 e
      have hK : shF (va_cpy fk fk (31 * 0) (31 * 3) n0) (93 + (m + 1)) (93 + n0) (93 + m) = sec fk 0 m := by rw [shF_lo (by omega)]; unfold va_cpy; rw [if_pos (by omega)]; unfold sec; congr 1; omega
      refine x_iload h (pc' := 112) rfl d3_put_110 0 rfl ?_
      refine x_bipush (v := (nI 93)) h (pc' := 114) rfl d3_put_112 (by decide) ?_
      refine x_icmp_le (tg := 168) h (pc' := 117) rfl d3_put_114 (by decide) (nI_leI (by omega) (by omega)) (fun c114 => ?_) (fun c114 => ?_)
      · skip
        exact absurd c114 (by omega)
      · skip
        refine x_aload_n h (pc' := 118) rfl d3_put_117 2 rfl rfl ?_
        refine x_get h (pc' := 121) rfl (fun c q => List.mem_cons_of_mem _ (in3 c q)) 0 1 rfl rfl (by decide) (List.mem_cons_of_mem _ lk3_13) rfl rfl d3_put_118 ?_
        refine x_iload h (pc' := 123) rfl d3_put_121 0 rfl ?_
        refine x_iconst (v := (nI 1)) h (pc' := 124) rfl d3_put_123 (by decide) ?_
        refine x_isub (z := (nI ((93 + (m + 1)) - 1))) h (pc' := 125) rfl d3_put_124 (pk_sub (by omega)) ?_
        refine x_top (y := (nI (93 + m))) (congrArg nI (by omega)) ?_
        refine x_iald (v := ((shF (va_cpy fk fk (31 * 0) (31 * 3) n0) (93 + (m + 1)) (93 + n0)) (93 + m))) h (pc' := 126) rfl 2 0 rfl rfl (by omega) (by decide) d3_put_125 rfl ?_
        refine x_iload_n h (pc' := 127) rfl d3_put_126 3 rfl rfl ?_
        refine x_icmp_le (tg := 168) h (pc' := 130) rfl d3_put_127 (by decide) Iff.rfl (fun c127 => ?_) (fun c127 => ?_)
        · skip
          rw [hK] at c127
          refine x_aload_n h (pc' := 169) rfl d3_put_168 2 rfl rfl ?_
          refine x_get h (pc' := 172) rfl (fun c q => List.mem_cons_of_mem _ (in3 c q)) 0 1 rfl rfl (by decide) (List.mem_cons_of_mem _ lk3_13) rfl rfl d3_put_169 ?_
          refine x_iload h (pc' := 174) rfl d3_put_172 0 rfl ?_
          refine x_iload_n h (pc' := 175) rfl d3_put_174 3 rfl rfl ?_
          refine x_iast (w' := (wR o a1 a2 a3 a4 a5 cI cZ (upd fc 3 (nI n0)) (upd (shF (va_cpy fk fk (31 * 0) (31 * 3) n0) (93 + (m + 1)) (93 + n0)) (93 + (m + 1)) key) (shF (va_cpy fv fv (31 * 0) (31 * 3) n0) (93 + (m + 1)) (93 + n0)) (va_cpy fi fi (31 * 0) (31 * 3) n0) fh (nI made) (bi dn) (bi pe) (bi so) (bi fl) lf ev fe)) h (pc' := 176) rfl 2 0 rfl rfl (by omega) (by decide) d3_put_175 rfl ?_
          refine x_aload_n h (pc' := 177) rfl d3_put_176 2 rfl rfl ?_
          refine x_get h (pc' := 180) rfl (fun c q => List.mem_cons_of_mem _ (in3 c q)) 0 2 rfl rfl (by decide) (List.mem_cons_of_mem _ lk3_16) rfl rfl d3_put_177 ?_
          refine x_iload h (pc' := 182) rfl d3_put_180 0 rfl ?_
          refine x_iload_n h (pc' := 183) rfl d3_put_182 4 rfl rfl ?_
          refine x_iast (w' := (wR o a1 a2 a3 a4 a5 cI cZ (upd fc 3 (nI n0)) (upd (shF (va_cpy fk fk (31 * 0) (31 * 3) n0) (93 + (m + 1)) (93 + n0)) (93 + (m + 1)) key) (upd (shF (va_cpy fv fv (31 * 0) (31 * 3) n0) (93 + (m + 1)) (93 + n0)) (93 + (m + 1)) value) (va_cpy fi fi (31 * 0) (31 * 3) n0) fh (nI made) (bi dn) (bi pe) (bi so) (bi fl) lf ev fe)) h (pc' := 184) rfl 3 0 rfl rfl (by omega) (by decide) d3_put_183 rfl ?_
          refine x_aload_n h (pc' := 185) rfl d3_put_184 2 rfl rfl ?_
          refine x_get h (pc' := 188) rfl (fun c q => List.mem_cons_of_mem _ (in3 c q)) 0 0 rfl rfl (by decide) (List.mem_cons_of_mem _ lk3_7) rfl rfl d3_put_185 ?_
          refine x_iconst (v := (nI 3)) h (pc' := 189) rfl d3_put_188 (by decide) ?_
          refine x_dup2 h (pc' := 190) rfl d3_put_189 rfl rfl ?_
          refine x_iald (v := (nI n0)) h (pc' := 191) rfl 1 0 rfl rfl (by omega) (by decide) d3_put_190 pk_us ?_
          refine x_iconst (v := (nI 1)) h (pc' := 192) rfl d3_put_191 (by decide) ?_
          refine x_iadd (z := (nI (n0 + 1))) h (pc' := 193) rfl d3_put_192 (nI_add n0 1) ?_
          refine x_iast (w' := (wR o a1 a2 a3 a4 a5 cI cZ (upd (upd fc 3 (nI n0)) 3 (nI (n0 + 1))) (upd (shF (va_cpy fk fk (31 * 0) (31 * 3) n0) (93 + (m + 1)) (93 + n0)) (93 + (m + 1)) key) (upd (shF (va_cpy fv fv (31 * 0) (31 * 3) n0) (93 + (m + 1)) (93 + n0)) (93 + (m + 1)) value) (va_cpy fi fi (31 * 0) (31 * 3) n0) fh (nI made) (bi dn) (bi pe) (bi so) (bi fl) lf ev fe)) h (pc' := 194) rfl 1 0 rfl rfl (by omega) (by decide) d3_put_193 rfl ?_
          refine x_aload_n h (pc' := 195) rfl d3_put_194 2 rfl rfl ?_
          refine x_w (w' := (wR o a1 a2 a3 a4 a5 cI cZ (upd (upd fc 3 (nI n0)) 3 (nI (n0 + 1))) (insF (va_cpy fk fk (31 * 0) (31 * 3) n0) (93 + (m + 1)) (93 + n0) key) (insF (va_cpy fv fv (31 * 0) (31 * 3) n0) (93 + (m + 1)) (93 + n0) value) (va_cpy fi fi (31 * 0) (31 * 3) n0) fh (nI made) (bi dn) (bi pe) (bi so) (bi fl) lf ev fe)) (by rw [shF_ins, shF_ins]) ?_
          -- change
          refine x_vI h (pc' := 198) rfl [] (k3_change l D cI cZ cS o a1 a2 a3 a4 a5 (upd (upd fc 3 (nI n0)) 3 (nI (n0 + 1))) (insF (va_cpy fk fk (31 * 0) (31 * 3) n0) (93 + (m + 1)) (93 + n0) key) (insF (va_cpy fv fv (31 * 0) (31 * 3) n0) (93 + (m + 1)) (93 + n0) value) (va_cpy fi fi (31 * 0) (31 * 3) n0) fh (bi dn) (bi pe) (bi so) (bi fl) lf ev fe n0 m1 m2 (n0 + 1) made t1 t2 (by omega) h1 h2 (by omega) hm ((pk_un (by omega)).trans ((pk_un (by omega)).trans e0)) ((pk_un (by omega)).trans ((pk_un (by omega)).trans e1)) ((pk_un (by omega)).trans ((pk_un (by omega)).trans e2)) pk_us u1 u2) d3_put_195 0 (gd_V ml3_92 im3_change se3_change ini3 cd3_change) rfl ⟨rfl, rfl⟩ hd3_change ⟨by decide, by decide⟩ ⟨Nat.zero_le _, Nat.zero_le _⟩ 0 rfl rfl rfl [0, 1, 2, 3, 4, 5] rfl rfl rfl (Nat.le_of_ble_eq_true rfl) rfl (fun rr195 ww195 pp195 ee195 => ?_)
          rw [putB6 _ (by simpa using congrArg List.length ee195)]
          refine hret _ _ _ _ d3_put_198 ee195 (Or.inr (Or.inr ⟨hG.1, hG.2.1, Or.inr (Or.inr (Or.inr ⟨hG.2.2.1, hG.2.2.2, ?_⟩))⟩))
          rw [e, fstF_stop (show (fun j => decide (key < sec fk 0 j)) m = false from decide_eq_false (Int32.not_lt.mpr c127))]; exact pp195
        · skip
          refine x_aload_n h (pc' := 131) rfl d3_put_130 2 rfl rfl ?_
          refine x_get h (pc' := 134) rfl (fun c q => List.mem_cons_of_mem _ (in3 c q)) 0 1 rfl rfl (by decide) (List.mem_cons_of_mem _ lk3_13) rfl rfl d3_put_131 ?_
          refine x_iload h (pc' := 136) rfl d3_put_134 0 rfl ?_
          refine x_aload_n h (pc' := 137) rfl d3_put_136 2 rfl rfl ?_
          refine x_get h (pc' := 140) rfl (fun c q => List.mem_cons_of_mem _ (in3 c q)) 0 1 rfl rfl (by decide) (List.mem_cons_of_mem _ lk3_13) rfl rfl d3_put_137 ?_
          refine x_iload h (pc' := 142) rfl d3_put_140 0 rfl ?_
          refine x_iconst (v := (nI 1)) h (pc' := 143) rfl d3_put_142 (by decide) ?_
          refine x_isub (z := (nI ((93 + (m + 1)) - 1))) h (pc' := 144) rfl d3_put_143 (pk_sub (by omega)) ?_
          refine x_top (y := (nI (93 + m))) (congrArg nI (by omega)) ?_
          refine x_iald (v := ((shF (va_cpy fk fk (31 * 0) (31 * 3) n0) (93 + (m + 1)) (93 + n0)) (93 + m))) h (pc' := 145) rfl 2 0 rfl rfl (by omega) (by decide) d3_put_144 rfl ?_
          refine x_iast (w' := (wR o a1 a2 a3 a4 a5 cI cZ (upd fc 3 (nI n0)) (upd (shF (va_cpy fk fk (31 * 0) (31 * 3) n0) (93 + (m + 1)) (93 + n0)) (93 + (m + 1)) ((shF (va_cpy fk fk (31 * 0) (31 * 3) n0) (93 + (m + 1)) (93 + n0)) (93 + m))) (shF (va_cpy fv fv (31 * 0) (31 * 3) n0) (93 + (m + 1)) (93 + n0)) (va_cpy fi fi (31 * 0) (31 * 3) n0) fh (nI made) (bi dn) (bi pe) (bi so) (bi fl) lf ev fe)) h (pc' := 146) rfl 2 0 rfl rfl (by omega) (by decide) d3_put_145 rfl ?_
          refine x_aload_n h (pc' := 147) rfl d3_put_146 2 rfl rfl ?_
          refine x_get h (pc' := 150) rfl (fun c q => List.mem_cons_of_mem _ (in3 c q)) 0 2 rfl rfl (by decide) (List.mem_cons_of_mem _ lk3_16) rfl rfl d3_put_147 ?_
          refine x_iload h (pc' := 152) rfl d3_put_150 0 rfl ?_
          refine x_aload_n h (pc' := 153) rfl d3_put_152 2 rfl rfl ?_
          refine x_get h (pc' := 156) rfl (fun c q => List.mem_cons_of_mem _ (in3 c q)) 0 2 rfl rfl (by decide) (List.mem_cons_of_mem _ lk3_16) rfl rfl d3_put_153 ?_
          refine x_iload h (pc' := 158) rfl d3_put_156 0 rfl ?_
          refine x_iconst (v := (nI 1)) h (pc' := 159) rfl d3_put_158 (by decide) ?_
          refine x_isub (z := (nI ((93 + (m + 1)) - 1))) h (pc' := 160) rfl d3_put_159 (pk_sub (by omega)) ?_
          refine x_top (y := (nI (93 + m))) (congrArg nI (by omega)) ?_
          refine x_iald (v := ((shF (va_cpy fv fv (31 * 0) (31 * 3) n0) (93 + (m + 1)) (93 + n0)) (93 + m))) h (pc' := 161) rfl 3 0 rfl rfl (by omega) (by decide) d3_put_160 rfl ?_
          refine x_iast (w' := (wR o a1 a2 a3 a4 a5 cI cZ (upd fc 3 (nI n0)) (upd (shF (va_cpy fk fk (31 * 0) (31 * 3) n0) (93 + (m + 1)) (93 + n0)) (93 + (m + 1)) ((shF (va_cpy fk fk (31 * 0) (31 * 3) n0) (93 + (m + 1)) (93 + n0)) (93 + m))) (upd (shF (va_cpy fv fv (31 * 0) (31 * 3) n0) (93 + (m + 1)) (93 + n0)) (93 + (m + 1)) ((shF (va_cpy fv fv (31 * 0) (31 * 3) n0) (93 + (m + 1)) (93 + n0)) (93 + m))) (va_cpy fi fi (31 * 0) (31 * 3) n0) fh (nI made) (bi dn) (bi pe) (bi so) (bi fl) lf ev fe)) h (pc' := 162) rfl 3 0 rfl rfl (by omega) (by decide) d3_put_161 rfl ?_
          refine x_iinc (lv' := [(4, .int (nI (93 + m))), (3, .int (-1)), (0, .ref o), (1, .int key), (2, .int value)]) h (pc' := 165) rfl d3_put_162 0 rfl (n_decE (by omega)) (by decide) rfl ?_
          refine x_goto (pc' := 110) h d3_put_165 (by decide) ?_
          refine x_w (w' := (wR o a1 a2 a3 a4 a5 cI cZ (upd fc 3 (nI n0)) (shF (va_cpy fk fk (31 * 0) (31 * 3) n0) (93 + m) (93 + n0)) (shF (va_cpy fv fv (31 * 0) (31 * 3) n0) (93 + m) (93 + n0)) (va_cpy fi fi (31 * 0) (31 * 3) n0) fh (nI made) (bi dn) (bi pe) (bi so) (bi fl) lf ev fe)) (by rw [← shF_step (va_cpy fk fk (31 * 0) (31 * 3) n0) (show 93 + m < 93 + n0 by omega), ← shF_step (va_cpy fv fv (31 * 0) (31 * 3) n0) (show 93 + m < 93 + n0 by omega)]; rfl) ?_
          rw [hK] at c127
          exact ih (by omega) (e.trans (fstF_hit (decide_eq_true (Int32.not_le.mp c127))))
  refine x_aload_n h (pc' := 1) rfl d3_put_0 0 rfl rfl ?_
  refine x_get h (pc' := 4) rfl (fun c q => List.mem_cons_of_mem _ (in3 c q)) 0 6 rfl rfl (by decide) (List.mem_cons_of_mem _ lk3_88) rfl rfl d3_put_1 ?_
  refine x_if_eq (tg := 9) h (pc' := 7) rfl d3_put_4 (by decide) (bi_0 _) (fun c4 => ?_) (fun c4 => ?_)
  · skip
    refine x_iload_n h (pc' := 10) rfl d3_put_9 1 rfl rfl ?_
    refine x_if_lt (tg := 30) h (pc' := 13) rfl d3_put_10 (by decide) Iff.rfl (fun c10 => ?_) (fun c10 => ?_)
    · skip
      refine x_bipush (v := (-3)) h (pc' := 32) rfl d3_put_30 (by decide) ?_
      exact hret _ _ _ _ d3_put_32 rfl (Or.inr (Or.inl ⟨c4, (by first | exact Or.inl c10 | exact Or.inr (Or.inl c17) | exact Or.inr (Or.inr (Or.inl c21)) | exact Or.inr (Or.inr (Or.inr (Int32.not_le.mp c27)))), rfl, rfl⟩))
    · skip
      refine x_iload_n h (pc' := 14) rfl d3_put_13 1 rfl rfl ?_
      refine x_sipush (v := (nI 4095)) h (pc' := 17) rfl d3_put_14 (by decide) ?_
      refine x_icmp_gt (tg := 30) h (pc' := 20) rfl d3_put_17 (by decide) Iff.rfl (fun c17 => ?_) (fun c17 => ?_)
      · skip
        refine x_bipush (v := (-3)) h (pc' := 32) rfl d3_put_30 (by decide) ?_
        exact hret _ _ _ _ d3_put_32 rfl (Or.inr (Or.inl ⟨c4, (by first | exact Or.inl c10 | exact Or.inr (Or.inl c17) | exact Or.inr (Or.inr (Or.inl c21)) | exact Or.inr (Or.inr (Or.inr (Int32.not_le.mp c27)))), rfl, rfl⟩))
      · skip
        refine x_iload_n h (pc' := 21) rfl d3_put_20 2 rfl rfl ?_
        refine x_if_lt (tg := 30) h (pc' := 24) rfl d3_put_21 (by decide) Iff.rfl (fun c21 => ?_) (fun c21 => ?_)
        · skip
          refine x_bipush (v := (-3)) h (pc' := 32) rfl d3_put_30 (by decide) ?_
          exact hret _ _ _ _ d3_put_32 rfl (Or.inr (Or.inl ⟨c4, (by first | exact Or.inl c10 | exact Or.inr (Or.inl c17) | exact Or.inr (Or.inr (Or.inl c21)) | exact Or.inr (Or.inr (Or.inr (Int32.not_le.mp c27)))), rfl, rfl⟩))
        · skip
          refine x_iload_n h (pc' := 25) rfl d3_put_24 2 rfl rfl ?_
          refine x_ldc (v := 999999999) h (pc' := 27) rfl (List.mem_cons_of_mem _ ck3_91) d3_put_25 ?_
          refine x_icmp_le (tg := 33) h (pc' := 30) rfl d3_put_27 (by decide) Iff.rfl (fun c27 => ?_) (fun c27 => ?_)
          · skip
            refine x_aload_n h (pc' := 34) rfl d3_put_33 0 rfl rfl ?_
            refine x_iconst (v := (nI 0)) h (pc' := 35) rfl d3_put_34 (by decide) ?_
            refine x_iload_n h (pc' := 36) rfl d3_put_35 1 rfl rfl ?_
            -- find
            refine x_vI h (pc' := 39) rfl [.int (nI 0), .int key] (k3_find l D cI cZ cS o a1 a2 a3 a4 a5 fc fk fv fi fh (nI made) (bi dn) (bi pe) (bi so) (bi fl) lf ev fe 0 n0 (by omega) (by omega) e0 key) d3_put_36 2 (gd_V ml3_51 im3_find se3_find ini3 cd3_find) rfl ⟨rfl, rfl⟩ hd3_find ⟨by decide, by decide⟩ ⟨Nat.zero_le _, Nat.zero_le _⟩ 0 rfl rfl rfl [0, 1, 2, 3, 4, 5] rfl rfl rfl (Nat.le_of_ble_eq_true rfl) rfl (fun rr36 ww36 pp36 ee36 => ?_)
            obtain ⟨rfl, rfl⟩ := pp36
            rcases hq : fnK (sec fk 0) n0 key with _ | a
            · skip
              refine x_w (w' := (wR o a1 a2 a3 a4 a5 cI cZ fc fk fv fi fh (nI made) (bi dn) (bi pe) (bi so) (bi fl) lf ev fe)) rfl ?_
              refine x_top (y := (-1)) rfl ?_
              refine x_istore_n (lv' := [(3, .int (-1)), (0, .ref o), (1, .int key), (2, .int value)]) h (pc' := 40) rfl d3_put_39 rfl (by decide) rfl ?_
              refine x_iload_n h (pc' := 41) rfl d3_put_40 0 rfl rfl ?_
              refine x_if_lt (tg := 56) h (pc' := 44) rfl d3_put_41 (by decide) Iff.rfl (fun c41 => ?_) (fun c41 => ?_)
              · skip
                refine x_iload_n h (pc' := 57) rfl d3_put_56 0 rfl rfl ?_
                refine x_if_ge (tg := 74) h (pc' := 60) rfl d3_put_57 (by decide) Iff.rfl (fun c57 => ?_) (fun c57 => ?_)
                · skip
                  exact absurd c57 (by decide)
                · skip
                  refine x_aload_n h (pc' := 61) rfl d3_put_60 1 rfl rfl ?_
                  refine x_get h (pc' := 64) rfl (fun c q => List.mem_cons_of_mem _ (in3 c q)) 0 0 rfl rfl (by decide) (List.mem_cons_of_mem _ lk3_7) rfl rfl d3_put_61 ?_
                  refine x_iconst (v := (nI 0)) h (pc' := 65) rfl d3_put_64 (by decide) ?_
                  refine x_iald (v := (nI n0)) h (pc' := 66) rfl 1 0 rfl rfl (by omega) (by decide) d3_put_65 e0 ?_
                  refine x_bipush (v := (nI 30)) h (pc' := 68) rfl d3_put_66 (by decide) ?_
                  refine x_icmp_ne (tg := 74) h (pc' := 71) rfl d3_put_68 (by decide) (nI_eq (by omega) (by omega)) (fun c68 => ?_) (fun c68 => ?_)
                  · skip
                    refine x_aload_n h (pc' := 75) rfl d3_put_74 1 rfl rfl ?_
                    refine x_iconst (v := (nI 0)) h (pc' := 76) rfl d3_put_75 (by decide) ?_
                    refine x_iconst (v := (nI 3)) h (pc' := 77) rfl d3_put_76 (by decide) ?_
                    -- copy
                    refine x_vV h (pc' := 80) rfl [.int (nI 0), .int (nI 3)] (k3_copy l D cI cZ cS o a1 a2 a3 a4 a5 fc fk fv fi fh (nI made) (bi dn) (bi pe) (bi so) (bi fl) lf ev fe 0 n0 (by omega) (by omega) e0 3 (by omega) (by omega)) d3_put_77 2 (gd_V ml3_74 im3_copy se3_copy ini3 cd3_copy) rfl ⟨rfl, rfl⟩ hd3_copy ⟨by decide, by decide⟩ ⟨Nat.zero_le _, Nat.zero_le _⟩ 0 rfl rfl rfl [0, 1, 2, 3, 4, 5] rfl rfl rfl (Nat.le_of_ble_eq_true rfl) rfl (fun ww77 pp77 ee77 => ?_)
                    subst pp77
                    refine x_w (w' := (wR o a1 a2 a3 a4 a5 cI cZ (upd fc 3 (nI n0)) (va_cpy fk fk (31 * 0) (31 * 3) n0) (va_cpy fv fv (31 * 0) (31 * 3) n0) (va_cpy fi fi (31 * 0) (31 * 3) n0) fh (nI made) (bi dn) (bi pe) (bi so) (bi fl) lf ev fe)) rfl ?_
                    refine x_iload_n h (pc' := 81) rfl d3_put_80 0 rfl rfl ?_
                    refine x_if_lt (tg := 99) h (pc' := 84) rfl d3_put_81 (by decide) Iff.rfl (fun c81 => ?_) (fun c81 => ?_)
                    · skip
                      refine x_bipush (v := (nI 93)) h (pc' := 101) rfl d3_put_99 (by decide) ?_
                      refine x_aload_n h (pc' := 102) rfl d3_put_101 1 rfl rfl ?_
                      refine x_get h (pc' := 105) rfl (fun c q => List.mem_cons_of_mem _ (in3 c q)) 0 0 rfl rfl (by decide) (List.mem_cons_of_mem _ lk3_7) rfl rfl d3_put_102 ?_
                      refine x_iconst (v := (nI 3)) h (pc' := 106) rfl d3_put_105 (by decide) ?_
                      refine x_iald (v := (nI n0)) h (pc' := 107) rfl 1 0 rfl rfl (by omega) (by decide) d3_put_106 pk_us ?_
                      refine x_iadd (z := (nI (93 + n0))) h (pc' := 108) rfl d3_put_107 (nI_add 93 n0) ?_
                      refine x_istore (lv' := [(4, .int (nI (93 + n0))), (3, .int (-1)), (0, .ref o), (1, .int key), (2, .int value)]) h (pc' := 110) rfl d3_put_108 (by decide) rfl ?_
                      refine x_lv (lv' := [(4, .int (nI (93 + n0))), (3, .int (-1)), (0, .ref o), (1, .int key), (2, .int value)]) [0, 1, 2, 3, 4] rfl ?_
                      refine x_w (w' := (wR o a1 a2 a3 a4 a5 cI cZ (upd fc 3 (nI n0)) (shF (va_cpy fk fk (31 * 0) (31 * 3) n0) (93 + n0) (93 + n0)) (shF (va_cpy fv fv (31 * 0) (31 * 3) n0) (93 + n0) (93 + n0)) (va_cpy fi fi (31 * 0) (31 * 3) n0) fh (nI made) (bi dn) (bi pe) (bi so) (bi fl) lf ev fe)) (by rw [shF_nn, shF_nn]) ?_
                      exact lp ⟨c4, ⟨c10, Int32.not_lt.mp c17, c21, c27⟩, hq, by omega⟩ n0 (by omega) rfl
                    · skip
                      exact absurd (by decide) c81
                  · skip
                    refine x_bipush (v := (-5)) h (pc' := 73) rfl d3_put_71 (by decide) ?_
                    exact hret _ _ _ _ d3_put_73 rfl (Or.inr (Or.inr ⟨c4, ⟨c10, Int32.not_lt.mp c17, c21, c27⟩, Or.inr (Or.inr (Or.inl ⟨hq, by omega, rfl, rfl⟩))⟩))
              · skip
                exact absurd (by decide) c41
            · skip
              have hb := fnK_some hq
              refine x_w (w' := (wR o a1 a2 a3 a4 a5 cI cZ fc fk fv fi fh (nI made) (bi dn) (bi pe) (bi so) (bi fl) lf ev fe)) rfl ?_
              refine x_top (y := (nI (31 * 0 + a))) rfl ?_
              refine x_istore_n (lv' := [(3, .int (nI (31 * 0 + a))), (0, .ref o), (1, .int key), (2, .int value)]) h (pc' := 40) rfl d3_put_39 rfl (by decide) rfl ?_
              refine x_iload_n h (pc' := 41) rfl d3_put_40 0 rfl rfl ?_
              refine x_if_lt (tg := 56) h (pc' := 44) rfl d3_put_41 (by decide) (n_lt0 (by omega)) (fun c41 => ?_) (fun c41 => ?_)
              · skip
                exact absurd c41 (by omega)
              · skip
                refine x_aload_n h (pc' := 45) rfl d3_put_44 1 rfl rfl ?_
                refine x_get h (pc' := 48) rfl (fun c q => List.mem_cons_of_mem _ (in3 c q)) 0 2 rfl rfl (by decide) (List.mem_cons_of_mem _ lk3_16) rfl rfl d3_put_45 ?_
                refine x_iload_n h (pc' := 49) rfl d3_put_48 0 rfl rfl ?_
                refine x_iald (v := (sec fv 0 a)) h (pc' := 50) rfl 3 0 rfl rfl (by omega) (by decide) d3_put_49 rfl ?_
                refine x_iload_n h (pc' := 51) rfl d3_put_50 3 rfl rfl ?_
                refine x_icmp_ne (tg := 56) h (pc' := 54) rfl d3_put_51 (by decide) Iff.rfl (fun c51 => ?_) (fun c51 => ?_)
                · skip
                  refine x_iload_n h (pc' := 57) rfl d3_put_56 0 rfl rfl ?_
                  refine x_if_ge (tg := 74) h (pc' := 60) rfl d3_put_57 (by decide) (n_ge0 (by omega)) (fun c57 => ?_) (fun c57 => ?_)
                  · skip
                    refine x_aload_n h (pc' := 75) rfl d3_put_74 1 rfl rfl ?_
                    refine x_iconst (v := (nI 0)) h (pc' := 76) rfl d3_put_75 (by decide) ?_
                    refine x_iconst (v := (nI 3)) h (pc' := 77) rfl d3_put_76 (by decide) ?_
                    -- copy
                    refine x_vV h (pc' := 80) rfl [.int (nI 0), .int (nI 3)] (k3_copy l D cI cZ cS o a1 a2 a3 a4 a5 fc fk fv fi fh (nI made) (bi dn) (bi pe) (bi so) (bi fl) lf ev fe 0 n0 (by omega) (by omega) e0 3 (by omega) (by omega)) d3_put_77 2 (gd_V ml3_74 im3_copy se3_copy ini3 cd3_copy) rfl ⟨rfl, rfl⟩ hd3_copy ⟨by decide, by decide⟩ ⟨Nat.zero_le _, Nat.zero_le _⟩ 0 rfl rfl rfl [0, 1, 2, 3, 4, 5] rfl rfl rfl (Nat.le_of_ble_eq_true rfl) rfl (fun ww77 pp77 ee77 => ?_)
                    subst pp77
                    refine x_w (w' := (wR o a1 a2 a3 a4 a5 cI cZ (upd fc 3 (nI n0)) (va_cpy fk fk (31 * 0) (31 * 3) n0) (va_cpy fv fv (31 * 0) (31 * 3) n0) (va_cpy fi fi (31 * 0) (31 * 3) n0) fh (nI made) (bi dn) (bi pe) (bi so) (bi fl) lf ev fe)) rfl ?_
                    refine x_iload_n h (pc' := 81) rfl d3_put_80 0 rfl rfl ?_
                    refine x_if_lt (tg := 99) h (pc' := 84) rfl d3_put_81 (by decide) (n_lt0 (by omega)) (fun c81 => ?_) (fun c81 => ?_)
                    · skip
                      exact absurd c81 (by omega)
                    · skip
                      refine x_aload_n h (pc' := 85) rfl d3_put_84 1 rfl rfl ?_
                      refine x_get h (pc' := 88) rfl (fun c q => List.mem_cons_of_mem _ (in3 c q)) 0 2 rfl rfl (by decide) (List.mem_cons_of_mem _ lk3_16) rfl rfl d3_put_85 ?_
                      refine x_bipush (v := (nI 93)) h (pc' := 90) rfl d3_put_88 (by decide) ?_
                      refine x_iload_n h (pc' := 91) rfl d3_put_90 0 rfl rfl ?_
                      refine x_iadd (z := (nI (93 + (31 * 0 + a)))) h (pc' := 92) rfl d3_put_91 (nI_add 93 (31 * 0 + a)) ?_
                      refine x_top (y := (nI (93 + a))) (congrArg nI (by omega)) ?_
                      refine x_iload_n h (pc' := 93) rfl d3_put_92 3 rfl rfl ?_
                      refine x_iast (w' := (wR o a1 a2 a3 a4 a5 cI cZ (upd fc 3 (nI n0)) (va_cpy fk fk (31 * 0) (31 * 3) n0) (upd (va_cpy fv fv (31 * 0) (31 * 3) n0) (93 + a) value) (va_cpy fi fi (31 * 0) (31 * 3) n0) fh (nI made) (bi dn) (bi pe) (bi so) (bi fl) lf ev fe)) h (pc' := 94) rfl 3 0 rfl rfl (by omega) (by decide) d3_put_93 rfl ?_
                      refine x_aload_n h (pc' := 95) rfl d3_put_94 1 rfl rfl ?_
                      -- change
                      refine x_vI h (pc' := 98) rfl [] (k3_change l D cI cZ cS o a1 a2 a3 a4 a5 (upd fc 3 (nI n0)) (va_cpy fk fk (31 * 0) (31 * 3) n0) (upd (va_cpy fv fv (31 * 0) (31 * 3) n0) (93 + a) value) (va_cpy fi fi (31 * 0) (31 * 3) n0) fh (bi dn) (bi pe) (bi so) (bi fl) lf ev fe n0 m1 m2 n0 made t1 t2 (by omega) h1 h2 (by omega) hm ((pk_un (by omega)).trans e0) ((pk_un (by omega)).trans e1) ((pk_un (by omega)).trans e2) pk_us u1 u2) d3_put_95 0 (gd_V ml3_92 im3_change se3_change ini3 cd3_change) rfl ⟨rfl, rfl⟩ hd3_change ⟨by decide, by decide⟩ ⟨Nat.zero_le _, Nat.zero_le _⟩ 0 rfl rfl rfl [0, 1, 2, 3, 4, 5] rfl rfl rfl (Nat.le_of_ble_eq_true rfl) rfl (fun rr95 ww95 pp95 ee95 => ?_)
                      rw [putB6 _ (by simpa using congrArg List.length ee95)]
                      exact hret _ _ _ _ d3_put_98 ee95 (Or.inr (Or.inr ⟨c4, ⟨c10, Int32.not_lt.mp c17, c21, c27⟩, Or.inr (Or.inl ⟨a, hq, c51, pp95⟩)⟩))
                  · skip
                    exact absurd c57 (by omega)
                · skip
                  refine x_iconst (v := (nI 0)) h (pc' := 55) rfl d3_put_54 (by decide) ?_
                  exact hret _ _ _ _ d3_put_55 rfl (Or.inr (Or.inr ⟨c4, ⟨c10, Int32.not_lt.mp c17, c21, c27⟩, Or.inl ⟨a, hq, c51, rfl, rfl⟩⟩))
          · skip
            refine x_bipush (v := (-3)) h (pc' := 32) rfl d3_put_30 (by decide) ?_
            exact hret _ _ _ _ d3_put_32 rfl (Or.inr (Or.inl ⟨c4, (by first | exact Or.inl c10 | exact Or.inr (Or.inl c17) | exact Or.inr (Or.inr (Or.inl c21)) | exact Or.inr (Or.inr (Or.inr (Int32.not_le.mp c27)))), rfl, rfl⟩))
  · skip
    refine x_iconst (v := (-1)) h (pc' := 8) rfl d3_put_7 (by decide) ?_
    exact hret _ _ _ _ d3_put_8 rfl (Or.inl ⟨ne_f c4, rfl, rfl⟩)
/-- what the reference's remove does -/
def rmR (o a1 a2 a3 a4 a5 : Nat) (cI cZ : ClassId) (fc fk fv fi fh : Nat → Int32) (lf ev fe : Int32) (dn pe so fl : Bool) (n0 m1 m2 made : Nat) (t1 t2 : Bool) (key r : Int32) (w' : va_W) : Prop :=
  (dn = true ∧ r = -1 ∧ w' = (wR o a1 a2 a3 a4 a5 cI cZ fc fk fv fi fh (nI made) (bi dn) (bi pe) (bi so) (bi fl) lf ev fe)) ∨ (dn = false ∧ fnK (sec fk 0) n0 key = none ∧ r = -4 ∧ w' = (wR o a1 a2 a3 a4 a5 cI cZ fc fk fv fi fh (nI made) (bi dn) (bi pe) (bi so) (bi fl) lf ev fe)) ∨ (dn = false ∧ ∃ a, fnK (sec fk 0) n0 key = some a ∧ chR o a1 a2 a3 a4 a5 cI cZ (upd (upd fc 3 (nI n0)) 3 (nI (n0 - 1))) (sdF (va_cpy fk fk (31 * 0) (31 * 3) n0) (93 + a) (93 + (n0 - 1))) (sdF (va_cpy fv fv (31 * 0) (31 * 3) n0) (93 + a) (93 + (n0 - 1))) (va_cpy fi fi (31 * 0) (31 * 3) n0) fh (bi dn) (bi pe) (bi so) (bi fl) lf ev fe n0 m1 m2 (n0 - 1) made t1 t2 r w')
set_option maxRecDepth 100000 in
set_option maxHeartbeats 4000000 in
theorem k3_remove (l : Launch) (D : va_G) (cI cZ cS : ClassId) (o a1 a2 a3 a4 a5 : Nat) (fc fk fv fi fh : Nat → Int32) (lf ev fe : Int32) (dn pe so fl : Bool) (n0 m1 m2 made : Nat) (t1 t2 : Bool) (h0 : n0 ≤ 30) (h1 : m1 ≤ 31) (h2 : m2 ≤ 31) (hm : made + 31 < 2 ^ 31) (e0 : fc 0 = nI n0) (e1 : fc 1 = nI m1) (e2 : fc 2 = nI m2) (u1 : fh 1 = bi t1) (u2 : fh 2 = bi t2) (key : Int32) : CI l y3_remove w3_remove (rmd 6) D (TS3 cI cZ cS) [.ref o, .int key] (wR o a1 a2 a3 a4 a5 cI cZ fc fk fv fi fh (nI made) (bi dn) (bi pe) (bi so) (bi fl) lf ev fe) (fun r w' => rmR o a1 a2 a3 a4 a5 cI cZ fc fk fv fi fh lf ev fe dn pe so fl n0 m1 m2 made t1 t2 key r w') := by
  refine x_metI (lv := [(0, .ref o), (1, .int key)]) (by decide +kernel) rfl rfl (Nat.le_of_ble_eq_true rfl) rfl ?_
  intro X h hret
  unfold rmR at hret
  have lp : ∀ a : Nat, a < n0 → dn = false → fnK (sec fk 0) n0 key = some a → ∀ f m : Nat, a ≤ m → m + f + 1 = n0 → WX X 0 0 34 [(3, .int (nI (93 + m))), (2, .int (nI (31 * 0 + a))), (0, .ref o), (1, .int key)] (wR o a1 a2 a3 a4 a5 cI cZ (upd fc 3 (nI n0)) (sdF (va_cpy fk fk (31 * 0) (31 * 3) n0) (93 + a) (93 + m)) (sdF (va_cpy fv fv (31 * 0) (31 * 3) n0) (93 + a) (93 + m)) (va_cpy fi fi (31 * 0) (31 * 3) n0) fh (nI made) (bi dn) (bi pe) (bi so) (bi fl) lf ev fe) [] := by
    intro a ha hdn hq f
    induction f with
    | zero =>
      intro m hm1 hm2
      obtain rfl : m = n0 - 1 := by omega
      refine x_iload_n h (pc' := 35) rfl d3_remove_34 0 rfl rfl ?_
      refine x_iconst (v := (nI 1)) h (pc' := 36) rfl d3_remove_35 (by decide) ?_
      refine x_iadd (z := (nI ((93 + (n0 - 1)) + 1))) h (pc' := 37) rfl d3_remove_36 (nI_add (93 + (n0 - 1)) 1) ?_
      refine x_bipush (v := (nI 93)) h (pc' := 39) rfl d3_remove_37 (by decide) ?_
      refine x_aload_n h (pc' := 40) rfl d3_remove_39 2 rfl rfl ?_
      refine x_get h (pc' := 43) rfl (fun c q => List.mem_cons_of_mem _ (in3 c q)) 0 0 rfl rfl (by decide) (List.mem_cons_of_mem _ lk3_7) rfl rfl d3_remove_40 ?_
      refine x_iconst (v := (nI 3)) h (pc' := 44) rfl d3_remove_43 (by decide) ?_
      refine x_iald (v := (nI n0)) h (pc' := 45) rfl 1 0 rfl rfl (by omega) (by decide) d3_remove_44 pk_us ?_
      refine x_iadd (z := (nI (93 + n0))) h (pc' := 46) rfl d3_remove_45 (nI_add 93 n0) ?_
      refine x_icmp_ge (tg := 83) h (pc' := 49) rfl d3_remove_46 (by decide) (nI_leI (by omega) (by omega)) (fun c46 => ?_) (fun c46 => ?_)
      · skip
        refine x_aload_n h (pc' := 84) rfl d3_remove_83 2 rfl rfl ?_
        refine x_get h (pc' := 87) rfl (fun c q => List.mem_cons_of_mem _ (in3 c q)) 0 0 rfl rfl (by decide) (List.mem_cons_of_mem _ lk3_7) rfl rfl d3_remove_84 ?_
        refine x_iconst (v := (nI 3)) h (pc' := 88) rfl d3_remove_87 (by decide) ?_
        refine x_dup2 h (pc' := 89) rfl d3_remove_88 rfl rfl ?_
        refine x_iald (v := (nI n0)) h (pc' := 90) rfl 1 0 rfl rfl (by omega) (by decide) d3_remove_89 pk_us ?_
        refine x_iconst (v := (nI 1)) h (pc' := 91) rfl d3_remove_90 (by decide) ?_
        refine x_isub (z := (nI (n0 - 1))) h (pc' := 92) rfl d3_remove_91 (pk_sub (by omega)) ?_
        refine x_iast (w' := (wR o a1 a2 a3 a4 a5 cI cZ (upd (upd fc 3 (nI n0)) 3 (nI (n0 - 1))) (sdF (va_cpy fk fk (31 * 0) (31 * 3) n0) (93 + a) (93 + (n0 - 1))) (sdF (va_cpy fv fv (31 * 0) (31 * 3) n0) (93 + a) (93 + (n0 - 1))) (va_cpy fi fi (31 * 0) (31 * 3) n0) fh (nI made) (bi dn) (bi pe) (bi so) (bi fl) lf ev fe)) h (pc' := 93) rfl 1 0 rfl rfl (by omega) (by decide) d3_remove_92 rfl ?_
        refine x_aload_n h (pc' := 94) rfl d3_remove_93 2 rfl rfl ?_
        -- change
        refine x_vI h (pc' := 97) rfl [] (k3_change l D cI cZ cS o a1 a2 a3 a4 a5 (upd (upd fc 3 (nI n0)) 3 (nI (n0 - 1))) (sdF (va_cpy fk fk (31 * 0) (31 * 3) n0) (93 + a) (93 + (n0 - 1))) (sdF (va_cpy fv fv (31 * 0) (31 * 3) n0) (93 + a) (93 + (n0 - 1))) (va_cpy fi fi (31 * 0) (31 * 3) n0) fh (bi dn) (bi pe) (bi so) (bi fl) lf ev fe n0 m1 m2 (n0 - 1) made t1 t2 (by omega) h1 h2 (by omega) hm ((pk_un (by omega)).trans ((pk_un (by omega)).trans e0)) ((pk_un (by omega)).trans ((pk_un (by omega)).trans e1)) ((pk_un (by omega)).trans ((pk_un (by omega)).trans e2)) pk_us u1 u2) d3_remove_94 0 (gd_V ml3_92 im3_change se3_change ini3 cd3_change) rfl ⟨rfl, rfl⟩ hd3_change ⟨by decide, by decide⟩ ⟨Nat.zero_le _, Nat.zero_le _⟩ 0 rfl rfl rfl [0, 1, 2, 3, 4, 5] rfl rfl rfl (Nat.le_of_ble_eq_true rfl) rfl (fun rr94 ww94 pp94 ee94 => ?_)
        rw [putB6 _ (by simpa using congrArg List.length ee94)]
        exact hret _ _ _ _ d3_remove_97 ee94 (Or.inr (Or.inr ⟨hdn, a, hq, pp94⟩))
      · skip
        exact absurd c46 (by omega)
    | succ f ih =>
      intro m hm1 hm2
      refine x_iload_n h (pc' := 35) rfl d3_remove_34 0 rfl rfl ?_
      refine x_iconst (v := (nI 1)) h (pc' := 36) rfl d3_remove_35 (by decide) ?_
      refine x_iadd (z := (nI ((93 + m) + 1))) h (pc' := 37) rfl d3_remove_36 (nI_add (93 + m) 1) ?_
      refine x_bipush (v := (nI 93)) h (pc' := 39) rfl d3_remove_37 (by decide) ?_
      refine x_aload_n h (pc' := 40) rfl d3_remove_39 2 rfl rfl ?_
      refine x_get h (pc' := 43) rfl (fun c q => List.mem_cons_of_mem _ (in3 c q)) 0 0 rfl rfl (by decide) (List.mem_cons_of_mem _ lk3_7) rfl rfl d3_remove_40 ?_
      refine x_iconst (v := (nI 3)) h (pc' := 44) rfl d3_remove_43 (by decide) ?_
      refine x_iald (v := (nI n0)) h (pc' := 45) rfl 1 0 rfl rfl (by omega) (by decide) d3_remove_44 pk_us ?_
      refine x_iadd (z := (nI (93 + n0))) h (pc' := 46) rfl d3_remove_45 (nI_add 93 n0) ?_
      refine x_icmp_ge (tg := 83) h (pc' := 49) rfl d3_remove_46 (by decide) (nI_leI (by omega) (by omega)) (fun c46 => ?_) (fun c46 => ?_)
      · skip
        exact absurd c46 (by omega)
      · skip
        refine x_aload_n h (pc' := 50) rfl d3_remove_49 2 rfl rfl ?_
        refine x_get h (pc' := 53) rfl (fun c q => List.mem_cons_of_mem _ (in3 c q)) 0 1 rfl rfl (by decide) (List.mem_cons_of_mem _ lk3_13) rfl rfl d3_remove_50 ?_
        refine x_iload_n h (pc' := 54) rfl d3_remove_53 0 rfl rfl ?_
        refine x_aload_n h (pc' := 55) rfl d3_remove_54 2 rfl rfl ?_
        refine x_get h (pc' := 58) rfl (fun c q => List.mem_cons_of_mem _ (in3 c q)) 0 1 rfl rfl (by decide) (List.mem_cons_of_mem _ lk3_13) rfl rfl d3_remove_55 ?_
        refine x_iload_n h (pc' := 59) rfl d3_remove_58 0 rfl rfl ?_
        refine x_iconst (v := (nI 1)) h (pc' := 60) rfl d3_remove_59 (by decide) ?_
        refine x_iadd (z := (nI ((93 + m) + 1))) h (pc' := 61) rfl d3_remove_60 (nI_add (93 + m) 1) ?_
        refine x_iald (v := ((sdF (va_cpy fk fk (31 * 0) (31 * 3) n0) (93 + a) (93 + m)) ((93 + m) + 1))) h (pc' := 62) rfl 2 0 rfl rfl (by omega) (by decide) d3_remove_61 rfl ?_
        refine x_iast (w' := (wR o a1 a2 a3 a4 a5 cI cZ (upd fc 3 (nI n0)) (upd (sdF (va_cpy fk fk (31 * 0) (31 * 3) n0) (93 + a) (93 + m)) (93 + m) ((sdF (va_cpy fk fk (31 * 0) (31 * 3) n0) (93 + a) (93 + m)) ((93 + m) + 1))) (sdF (va_cpy fv fv (31 * 0) (31 * 3) n0) (93 + a) (93 + m)) (va_cpy fi fi (31 * 0) (31 * 3) n0) fh (nI made) (bi dn) (bi pe) (bi so) (bi fl) lf ev fe)) h (pc' := 63) rfl 2 0 rfl rfl (by omega) (by decide) d3_remove_62 rfl ?_
        refine x_aload_n h (pc' := 64) rfl d3_remove_63 2 rfl rfl ?_
        refine x_get h (pc' := 67) rfl (fun c q => List.mem_cons_of_mem _ (in3 c q)) 0 2 rfl rfl (by decide) (List.mem_cons_of_mem _ lk3_16) rfl rfl d3_remove_64 ?_
        refine x_iload_n h (pc' := 68) rfl d3_remove_67 0 rfl rfl ?_
        refine x_aload_n h (pc' := 69) rfl d3_remove_68 2 rfl rfl ?_
        refine x_get h (pc' := 72) rfl (fun c q => List.mem_cons_of_mem _ (in3 c q)) 0 2 rfl rfl (by decide) (List.mem_cons_of_mem _ lk3_16) rfl rfl d3_remove_69 ?_
        refine x_iload_n h (pc' := 73) rfl d3_remove_72 0 rfl rfl ?_
        refine x_iconst (v := (nI 1)) h (pc' := 74) rfl d3_remove_73 (by decide) ?_
        refine x_iadd (z := (nI ((93 + m) + 1))) h (pc' := 75) rfl d3_remove_74 (nI_add (93 + m) 1) ?_
        refine x_iald (v := ((sdF (va_cpy fv fv (31 * 0) (31 * 3) n0) (93 + a) (93 + m)) ((93 + m) + 1))) h (pc' := 76) rfl 3 0 rfl rfl (by omega) (by decide) d3_remove_75 rfl ?_
        refine x_iast (w' := (wR o a1 a2 a3 a4 a5 cI cZ (upd fc 3 (nI n0)) (upd (sdF (va_cpy fk fk (31 * 0) (31 * 3) n0) (93 + a) (93 + m)) (93 + m) ((sdF (va_cpy fk fk (31 * 0) (31 * 3) n0) (93 + a) (93 + m)) ((93 + m) + 1))) (upd (sdF (va_cpy fv fv (31 * 0) (31 * 3) n0) (93 + a) (93 + m)) (93 + m) ((sdF (va_cpy fv fv (31 * 0) (31 * 3) n0) (93 + a) (93 + m)) ((93 + m) + 1))) (va_cpy fi fi (31 * 0) (31 * 3) n0) fh (nI made) (bi dn) (bi pe) (bi so) (bi fl) lf ev fe)) h (pc' := 77) rfl 3 0 rfl rfl (by omega) (by decide) d3_remove_76 rfl ?_
        refine x_iinc (lv' := [(3, .int (nI ((93 + m) + 1))), (2, .int (nI (31 * 0 + a))), (0, .ref o), (1, .int key)]) h (pc' := 80) rfl d3_remove_77 0 rfl (n_inc (93 + m)) (by decide) rfl ?_
        refine x_goto (pc' := 34) h d3_remove_80 (by decide) ?_
        refine x_w (w' := (wR o a1 a2 a3 a4 a5 cI cZ (upd fc 3 (nI n0)) (sdF (va_cpy fk fk (31 * 0) (31 * 3) n0) (93 + a) (93 + (m + 1))) (sdF (va_cpy fv fv (31 * 0) (31 * 3) n0) (93 + a) (93 + (m + 1))) (va_cpy fi fi (31 * 0) (31 * 3) n0) fh (nI made) (bi dn) (bi pe) (bi so) (bi fl) lf ev fe)) (by rw [show 93 + (m + 1) = 93 + m + 1 from rfl, ← sdF_step (va_cpy fk fk (31 * 0) (31 * 3) n0) (show 93 + a ≤ 93 + m by omega), ← sdF_step (va_cpy fv fv (31 * 0) (31 * 3) n0) (show 93 + a ≤ 93 + m by omega)]) ?_
        exact ih (m + 1) (by omega) (by omega)
  refine x_aload_n h (pc' := 1) rfl d3_remove_0 0 rfl rfl ?_
  refine x_get h (pc' := 4) rfl (fun c q => List.mem_cons_of_mem _ (in3 c q)) 0 6 rfl rfl (by decide) (List.mem_cons_of_mem _ lk3_88) rfl rfl d3_remove_1 ?_
  refine x_if_eq (tg := 9) h (pc' := 7) rfl d3_remove_4 (by decide) (bi_0 _) (fun c4 => ?_) (fun c4 => ?_)
  · skip
    refine x_aload_n h (pc' := 10) rfl d3_remove_9 0 rfl rfl ?_
    refine x_iconst (v := (nI 0)) h (pc' := 11) rfl d3_remove_10 (by decide) ?_
    refine x_iload_n h (pc' := 12) rfl d3_remove_11 1 rfl rfl ?_
    -- find
    refine x_vI h (pc' := 15) rfl [.int (nI 0), .int key] (k3_find l D cI cZ cS o a1 a2 a3 a4 a5 fc fk fv fi fh (nI made) (bi dn) (bi pe) (bi so) (bi fl) lf ev fe 0 n0 (by omega) (by omega) e0 key) d3_remove_12 2 (gd_V ml3_51 im3_find se3_find ini3 cd3_find) rfl ⟨rfl, rfl⟩ hd3_find ⟨by decide, by decide⟩ ⟨Nat.zero_le _, Nat.zero_le _⟩ 0 rfl rfl rfl [0, 1, 2, 3, 4, 5] rfl rfl rfl (Nat.le_of_ble_eq_true rfl) rfl (fun rr12 ww12 pp12 ee12 => ?_)
    obtain ⟨rfl, rfl⟩ := pp12
    rcases hq : fnK (sec fk 0) n0 key with _ | a
    · skip
      refine x_w (w' := (wR o a1 a2 a3 a4 a5 cI cZ fc fk fv fi fh (nI made) (bi dn) (bi pe) (bi so) (bi fl) lf ev fe)) rfl ?_
      refine x_top (y := (-1)) rfl ?_
      refine x_istore_n (lv' := [(2, .int (-1)), (0, .ref o), (1, .int key)]) h (pc' := 16) rfl d3_remove_15 rfl (by decide) rfl ?_
      refine x_iload_n h (pc' := 17) rfl d3_remove_16 0 rfl rfl ?_
      refine x_if_ge (tg := 23) h (pc' := 20) rfl d3_remove_17 (by decide) Iff.rfl (fun c17 => ?_) (fun c17 => ?_)
      · skip
        exact absurd c17 (by decide)
      · skip
        refine x_bipush (v := (-4)) h (pc' := 22) rfl d3_remove_20 (by decide) ?_
        exact hret _ _ _ _ d3_remove_22 rfl (Or.inr (Or.inl ⟨c4, hq, rfl, rfl⟩))
    · skip
      have hb := fnK_some hq
      refine x_w (w' := (wR o a1 a2 a3 a4 a5 cI cZ fc fk fv fi fh (nI made) (bi dn) (bi pe) (bi so) (bi fl) lf ev fe)) rfl ?_
      refine x_top (y := (nI (31 * 0 + a))) rfl ?_
      refine x_istore_n (lv' := [(2, .int (nI (31 * 0 + a))), (0, .ref o), (1, .int key)]) h (pc' := 16) rfl d3_remove_15 rfl (by decide) rfl ?_
      refine x_iload_n h (pc' := 17) rfl d3_remove_16 0 rfl rfl ?_
      refine x_if_ge (tg := 23) h (pc' := 20) rfl d3_remove_17 (by decide) (n_ge0 (by omega)) (fun c17 => ?_) (fun c17 => ?_)
      · skip
        refine x_aload_n h (pc' := 24) rfl d3_remove_23 1 rfl rfl ?_
        refine x_iconst (v := (nI 0)) h (pc' := 25) rfl d3_remove_24 (by decide) ?_
        refine x_iconst (v := (nI 3)) h (pc' := 26) rfl d3_remove_25 (by decide) ?_
        -- copy
        refine x_vV h (pc' := 29) rfl [.int (nI 0), .int (nI 3)] (k3_copy l D cI cZ cS o a1 a2 a3 a4 a5 fc fk fv fi fh (nI made) (bi dn) (bi pe) (bi so) (bi fl) lf ev fe 0 n0 (by omega) (by omega) e0 3 (by omega) (by omega)) d3_remove_26 2 (gd_V ml3_74 im3_copy se3_copy ini3 cd3_copy) rfl ⟨rfl, rfl⟩ hd3_copy ⟨by decide, by decide⟩ ⟨Nat.zero_le _, Nat.zero_le _⟩ 0 rfl rfl rfl [0, 1, 2, 3, 4, 5] rfl rfl rfl (Nat.le_of_ble_eq_true rfl) rfl (fun ww26 pp26 ee26 => ?_)
        subst pp26
        refine x_w (w' := (wR o a1 a2 a3 a4 a5 cI cZ (upd fc 3 (nI n0)) (va_cpy fk fk (31 * 0) (31 * 3) n0) (va_cpy fv fv (31 * 0) (31 * 3) n0) (va_cpy fi fi (31 * 0) (31 * 3) n0) fh (nI made) (bi dn) (bi pe) (bi so) (bi fl) lf ev fe)) rfl ?_
        refine x_bipush (v := (nI 93)) h (pc' := 31) rfl d3_remove_29 (by decide) ?_
        refine x_iload_n h (pc' := 32) rfl d3_remove_31 0 rfl rfl ?_
        refine x_iadd (z := (nI (93 + (31 * 0 + a)))) h (pc' := 33) rfl d3_remove_32 (nI_add 93 (31 * 0 + a)) ?_
        refine x_top (y := (nI (93 + a))) (congrArg nI (by omega)) ?_
        refine x_istore_n (lv' := [(3, .int (nI (93 + a))), (2, .int (nI (31 * 0 + a))), (0, .ref o), (1, .int key)]) h (pc' := 34) rfl d3_remove_33 rfl (by decide) rfl ?_
        refine x_lv (lv' := [(3, .int (nI (93 + a))), (2, .int (nI (31 * 0 + a))), (0, .ref o), (1, .int key)]) [0, 1, 2, 3] rfl ?_
        refine x_w (w' := (wR o a1 a2 a3 a4 a5 cI cZ (upd fc 3 (nI n0)) (sdF (va_cpy fk fk (31 * 0) (31 * 3) n0) (93 + a) (93 + a)) (sdF (va_cpy fv fv (31 * 0) (31 * 3) n0) (93 + a) (93 + a)) (va_cpy fi fi (31 * 0) (31 * 3) n0) fh (nI made) (bi dn) (bi pe) (bi so) (bi fl) lf ev fe)) (by rw [sdF_aa, sdF_aa]) ?_
        exact lp a hb.1 c4 hq (n0 - 1 - a) a (Nat.le_refl a) (by omega)
      · skip
        exact absurd c17 (by omega)
  · skip
    refine x_iconst (v := (-1)) h (pc' := 8) rfl d3_remove_7 (by decide) ?_
    exact hret _ _ _ _ d3_remove_8 rfl (Or.inl ⟨ne_f c4, rfl, rfl⟩)
