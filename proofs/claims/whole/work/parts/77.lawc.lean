set_option maxRecDepth 100000 in
set_option maxHeartbeats 4000000 in
theorem law_cut {X : XT} {l : Launch} {D : va_G} {cI cZ cS : ClassId} {b L : Nat} {xs : Nat → Int32} (hL : LX X l D cI cZ cS b L xs) {c i a o : Nat} {w1 w2 : va_W} (hT : TI c a o cI cZ cS w1 w2) (hi : i + 3 ≤ L) (hc : c ≤ 511) (K : ∀ u1 u2 : va_W, TI (c + 1) a o cI cZ cS u1 u2 → WX X 31 1067 476 [(3, .int (nI i)), (2, .ref o), (1, .ref a), (0, .ref b)] (u1 ++ u2) []) : WX X 31 1067 112 [(3, .int (nI i)), (2, .ref o), (1, .ref a), (0, .ref b)] (w1 ++ w2) [] := by
  obtain ⟨A, fk0, fv0, fr0, fd0, n0, fk3, fv3, fr3, fd3, n3, fk1, fv1, fr1, fd1, n1, fk2, fv2, fr2, fd2, n2, ft, fu, iu, a1, a2, a3, a4, a5, gc, gk, gv, gi, gh, made, dn, pe, so, fl, t1, t2, ct, ev, fe, d0, d1, d2, d3, i0, i1, i2, i3, rfl, rfl, rfl, hI⟩ := hT
  obtain ⟨⟨⟨l0, l3, l1, l2⟩, ⟨g0, g3, g1, g2⟩, q1, q2, q3, q4⟩, ⟨hpe, hct, hmd⟩, ⟨S0, K0, N0⟩, T1, T2, T12, TP⟩ := id hI
  have h := hL.1
  have hL5 := hL.2.2.2.2
  refine x_aload_n h (pc' := 113) rfl dL_law_112 2 rfl rfl ?_
  refine x_aload_n h (pc' := 114) rfl dL_law_113 3 rfl rfl ?_
  refine x_iload_n h (pc' := 115) rfl dL_law_114 0 rfl rfl ?_
  refine x_iconst (v := (nI 1)) h (pc' := 116) rfl dL_law_115 (by decide) ?_
  refine x_iadd (z := (nI (i + 1))) h (pc' := 117) rfl dL_law_116 (nI_add i 1) ?_
  refine x_sld hL (pc' := 118) rfl (by omega) dL_law_117 ?_
  refine x_vI h (pc' := 121) rfl [.int (xs (i + 1))] (k2_cut l D cI cZ cS A fk0 fv0 fr0 fd0 n0 fk3 fv3 fr3 fd3 n3 fk1 fv1 fr1 fd1 n1 fk2 fv2 fr2 fd2 n2 ft fu iu dn (pe && so) (pe && fl) ct ev fe l0 l3 l1 l2 (xs (i + 1))) dL_law_118 1 (gd_L mlL_13 im2_cut se2_cut ini2 cd2_cut) rfl ⟨rfl, rfl⟩ hd2_cut ⟨by decide, by decide⟩ ⟨by decide, by decide⟩ 0 rfl rfl rfl [0, 1, 2, 3, 4, 5, 6, 7, 8, 9, 10, 11, 12, 13, 14, 15, 16, 17, 18, 19, 20, 21, 22, 23, 24] nd25 (mapL rfl) rfl (Nat.le_of_ble_eq_true rfl) rfl (fun r1 u1 p1 e1 => ?_)
  have hu1 : u1.length = 25 := by simpa using congrArg List.length e1
  refine x_w (w' := u1 ++ wR o a1 a2 a3 a4 a5 cI cZ gc gk gv gi gh (nI made) (bi dn) (bi pe) (bi so) (bi fl) ct ev fe) (putL rfl hu1) ?_
  refine x_aload_n h (pc' := 122) rfl dL_law_121 1 rfl rfl ?_
  refine x_aload_n h (pc' := 123) rfl dL_law_122 3 rfl rfl ?_
  refine x_iload_n h (pc' := 124) rfl dL_law_123 0 rfl rfl ?_
  refine x_iconst (v := (nI 1)) h (pc' := 125) rfl dL_law_124 (by decide) ?_
  refine x_iadd (z := (nI (i + 1))) h (pc' := 126) rfl dL_law_125 (nI_add i 1) ?_
  refine x_sld hL (pc' := 127) rfl (by omega) dL_law_126 ?_
  refine x_vI h (pc' := 130) rfl [.int (xs (i + 1))] (k3_cut l D cI cZ cS o a1 a2 a3 a4 a5 gc gk gv gi gh (nI made) ct ev fe dn pe so fl (xs (i + 1))) dL_law_127 1 (gd_L mlL_17 im3_cut se3_cut ini3 cd3_cut) rfl ⟨rfl, rfl⟩ hd3_cut ⟨by decide, by decide⟩ ⟨by decide, by decide⟩ 25 rfl rfl ((atR hu1).trans rfl) [25, 26, 27, 28, 29, 30] nd6 (mapR hu1 rfl) rfl (Nat.le_of_ble_eq_true rfl) rfl (fun r2 u2 p2 e2 => ?_)
  have hu2 : u2.length = 6 := by simpa using congrArg List.length e2
  refine x_w (w' := u1 ++ u2) (putR hu1 rfl hu2) ?_
  obtain ⟨er, hT2⟩ := t_cut hI p1 p2
  refine x_icmp_eq (tg := 476) h (pc' := 133) rfl dL_law_130 (by decide) Iff.rfl (fun c130 => ?_) (fun c130 => ?_)
  · skip
    exact K u1 u2 hT2
  · skip
    exact absurd er c130
set_option maxRecDepth 100000 in
set_option maxHeartbeats 4000000 in
theorem law_put {X : XT} {l : Launch} {D : va_G} {cI cZ cS : ClassId} {b L : Nat} {xs : Nat → Int32} (hL : LX X l D cI cZ cS b L xs) {c i a o : Nat} {w1 w2 : va_W} (hT : TI c a o cI cZ cS w1 w2) (hi : i + 3 ≤ L) (hc : c ≤ 511) (K : ∀ u1 u2 : va_W, TI (c + 1) a o cI cZ cS u1 u2 → WX X 31 1067 476 [(3, .int (nI i)), (2, .ref o), (1, .ref a), (0, .ref b)] (u1 ++ u2) []) : WX X 31 1067 135 [(3, .int (nI i)), (2, .ref o), (1, .ref a), (0, .ref b)] (w1 ++ w2) [] := by
  obtain ⟨A, fk0, fv0, fr0, fd0, n0, fk3, fv3, fr3, fd3, n3, fk1, fv1, fr1, fd1, n1, fk2, fv2, fr2, fd2, n2, ft, fu, iu, a1, a2, a3, a4, a5, gc, gk, gv, gi, gh, made, dn, pe, so, fl, t1, t2, ct, ev, fe, d0, d1, d2, d3, i0, i1, i2, i3, rfl, rfl, rfl, hI⟩ := hT
  obtain ⟨⟨⟨l0, l3, l1, l2⟩, ⟨g0, g3, g1, g2⟩, q1, q2, q3, q4⟩, ⟨hpe, hct, hmd⟩, ⟨S0, K0, N0⟩, T1, T2, T12, TP⟩ := id hI
  have h := hL.1
  have hL5 := hL.2.2.2.2
  refine x_aload_n h (pc' := 136) rfl dL_law_135 2 rfl rfl ?_
  refine x_aload_n h (pc' := 137) rfl dL_law_136 3 rfl rfl ?_
  refine x_iload_n h (pc' := 138) rfl dL_law_137 0 rfl rfl ?_
  refine x_iconst (v := (nI 1)) h (pc' := 139) rfl dL_law_138 (by decide) ?_
  refine x_iadd (z := (nI (i + 1))) h (pc' := 140) rfl dL_law_139 (nI_add i 1) ?_
  refine x_sld hL (pc' := 141) rfl (by omega) dL_law_140 ?_
  refine x_aload_n h (pc' := 142) rfl dL_law_141 3 rfl rfl ?_
  refine x_iload_n h (pc' := 143) rfl dL_law_142 0 rfl rfl ?_
  refine x_iconst (v := (nI 2)) h (pc' := 144) rfl dL_law_143 (by decide) ?_
  refine x_iadd (z := (nI (i + 2))) h (pc' := 145) rfl dL_law_144 (nI_add i 2) ?_
  refine x_sld hL (pc' := 146) rfl (by omega) dL_law_145 ?_
  refine x_vI h (pc' := 149) rfl [.int (xs (i + 1)), .int (xs (i + 2))] (k2_put l D cI cZ cS A fk0 fv0 fr0 fd0 n0 fk3 fv3 fr3 fd3 n3 fk1 fv1 fr1 fd1 n1 fk2 fv2 fr2 fd2 n2 ft fu iu dn (pe && so) (pe && fl) ct ev fe l0 l3 l1 l2 t1 t2 q3 q4 d0 d1 d2 N0.1 (fun h => (T1 h).2.1.1) (fun h => (T2 h).2.1.1) S0.2.2 (xs (i + 1)) (xs (i + 2))) dL_law_146 2 (gd_L mlL_18 im2_put se2_put ini2 cd2_put) rfl ⟨rfl, rfl⟩ hd2_put ⟨by decide, by decide⟩ ⟨by decide, by decide⟩ 0 rfl rfl rfl [0, 1, 2, 3, 4, 5, 6, 7, 8, 9, 10, 11, 12, 13, 14, 15, 16, 17, 18, 19, 20, 21, 22, 23, 24] nd25 (mapL rfl) rfl (Nat.le_of_ble_eq_true rfl) rfl (fun r1 u1 p1 e1 => ?_)
  have hu1 : u1.length = 25 := by simpa using congrArg List.length e1
  refine x_w (w' := u1 ++ wR o a1 a2 a3 a4 a5 cI cZ gc gk gv gi gh (nI made) (bi dn) (bi pe) (bi so) (bi fl) ct ev fe) (putL rfl hu1) ?_
  refine x_aload_n h (pc' := 150) rfl dL_law_149 1 rfl rfl ?_
  refine x_aload_n h (pc' := 151) rfl dL_law_150 3 rfl rfl ?_
  refine x_iload_n h (pc' := 152) rfl dL_law_151 0 rfl rfl ?_
  refine x_iconst (v := (nI 1)) h (pc' := 153) rfl dL_law_152 (by decide) ?_
  refine x_iadd (z := (nI (i + 1))) h (pc' := 154) rfl dL_law_153 (nI_add i 1) ?_
  refine x_sld hL (pc' := 155) rfl (by omega) dL_law_154 ?_
  refine x_aload_n h (pc' := 156) rfl dL_law_155 3 rfl rfl ?_
  refine x_iload_n h (pc' := 157) rfl dL_law_156 0 rfl rfl ?_
  refine x_iconst (v := (nI 2)) h (pc' := 158) rfl dL_law_157 (by decide) ?_
  refine x_iadd (z := (nI (i + 2))) h (pc' := 159) rfl dL_law_158 (nI_add i 2) ?_
  refine x_sld hL (pc' := 160) rfl (by omega) dL_law_159 ?_
  refine x_vI h (pc' := 163) rfl [.int (xs (i + 1)), .int (xs (i + 2))] (k3_put l D cI cZ cS o a1 a2 a3 a4 a5 gc gk gv gi gh ct ev fe dn pe so fl n0 n1 n2 made t1 t2 l0 (by omega) (by omega) (by omega) g0 g1 g2 q1 q2 (xs (i + 1)) (xs (i + 2))) dL_law_160 2 (gd_L mlL_22 im3_put se3_put ini3 cd3_put) rfl ⟨rfl, rfl⟩ hd3_put ⟨by decide, by decide⟩ ⟨by decide, by decide⟩ 25 rfl rfl ((atR hu1).trans rfl) [25, 26, 27, 28, 29, 30] nd6 (mapR hu1 rfl) rfl (Nat.le_of_ble_eq_true rfl) rfl (fun r2 u2 p2 e2 => ?_)
  have hu2 : u2.length = 6 := by simpa using congrArg List.length e2
  refine x_w (w' := u1 ++ u2) (putR hu1 rfl hu2) ?_
  obtain ⟨er, hT2⟩ := t_put hI hc p1 p2
  refine x_icmp_eq (tg := 476) h (pc' := 166) rfl dL_law_163 (by decide) Iff.rfl (fun c163 => ?_) (fun c163 => ?_)
  · skip
    exact K u1 u2 hT2
  · skip
    exact absurd er c163
set_option maxRecDepth 100000 in
set_option maxHeartbeats 4000000 in
theorem law_remove {X : XT} {l : Launch} {D : va_G} {cI cZ cS : ClassId} {b L : Nat} {xs : Nat → Int32} (hL : LX X l D cI cZ cS b L xs) {c i a o : Nat} {w1 w2 : va_W} (hT : TI c a o cI cZ cS w1 w2) (hi : i + 3 ≤ L) (hc : c ≤ 511) (K : ∀ u1 u2 : va_W, TI (c + 1) a o cI cZ cS u1 u2 → WX X 31 1067 476 [(3, .int (nI i)), (2, .ref o), (1, .ref a), (0, .ref b)] (u1 ++ u2) []) : WX X 31 1067 168 [(3, .int (nI i)), (2, .ref o), (1, .ref a), (0, .ref b)] (w1 ++ w2) [] := by
  obtain ⟨A, fk0, fv0, fr0, fd0, n0, fk3, fv3, fr3, fd3, n3, fk1, fv1, fr1, fd1, n1, fk2, fv2, fr2, fd2, n2, ft, fu, iu, a1, a2, a3, a4, a5, gc, gk, gv, gi, gh, made, dn, pe, so, fl, t1, t2, ct, ev, fe, d0, d1, d2, d3, i0, i1, i2, i3, rfl, rfl, rfl, hI⟩ := hT
  obtain ⟨⟨⟨l0, l3, l1, l2⟩, ⟨g0, g3, g1, g2⟩, q1, q2, q3, q4⟩, ⟨hpe, hct, hmd⟩, ⟨S0, K0, N0⟩, T1, T2, T12, TP⟩ := id hI
  have h := hL.1
  have hL5 := hL.2.2.2.2
  refine x_aload_n h (pc' := 169) rfl dL_law_168 2 rfl rfl ?_
  refine x_aload_n h (pc' := 170) rfl dL_law_169 3 rfl rfl ?_
  refine x_iload_n h (pc' := 171) rfl dL_law_170 0 rfl rfl ?_
  refine x_iconst (v := (nI 1)) h (pc' := 172) rfl dL_law_171 (by decide) ?_
  refine x_iadd (z := (nI (i + 1))) h (pc' := 173) rfl dL_law_172 (nI_add i 1) ?_
  refine x_sld hL (pc' := 174) rfl (by omega) dL_law_173 ?_
  refine x_vI h (pc' := 177) rfl [.int (xs (i + 1))] (k2_remove l D cI cZ cS A fk0 fv0 fr0 fd0 n0 fk3 fv3 fr3 fd3 n3 fk1 fv1 fr1 fd1 n1 fk2 fv2 fr2 fd2 n2 ft fu iu dn (pe && so) (pe && fl) ct ev fe l0 l3 l1 l2 t1 t2 q3 q4 d0 d1 d2 N0.1 (fun h => (T1 h).2.1.1) (fun h => (T2 h).2.1.1) S0.2.2 (xs (i + 1))) dL_law_174 1 (gd_L mlL_23 im2_remove se2_remove ini2 cd2_remove) rfl ⟨rfl, rfl⟩ hd2_remove ⟨by decide, by decide⟩ ⟨by decide, by decide⟩ 0 rfl rfl rfl [0, 1, 2, 3, 4, 5, 6, 7, 8, 9, 10, 11, 12, 13, 14, 15, 16, 17, 18, 19, 20, 21, 22, 23, 24] nd25 (mapL rfl) rfl (Nat.le_of_ble_eq_true rfl) rfl (fun r1 u1 p1 e1 => ?_)
  have hu1 : u1.length = 25 := by simpa using congrArg List.length e1
  refine x_w (w' := u1 ++ wR o a1 a2 a3 a4 a5 cI cZ gc gk gv gi gh (nI made) (bi dn) (bi pe) (bi so) (bi fl) ct ev fe) (putL rfl hu1) ?_
  refine x_aload_n h (pc' := 178) rfl dL_law_177 1 rfl rfl ?_
  refine x_aload_n h (pc' := 179) rfl dL_law_178 3 rfl rfl ?_
  refine x_iload_n h (pc' := 180) rfl dL_law_179 0 rfl rfl ?_
  refine x_iconst (v := (nI 1)) h (pc' := 181) rfl dL_law_180 (by decide) ?_
  refine x_iadd (z := (nI (i + 1))) h (pc' := 182) rfl dL_law_181 (nI_add i 1) ?_
  refine x_sld hL (pc' := 183) rfl (by omega) dL_law_182 ?_
  refine x_vI h (pc' := 186) rfl [.int (xs (i + 1))] (k3_remove l D cI cZ cS o a1 a2 a3 a4 a5 gc gk gv gi gh ct ev fe dn pe so fl n0 n1 n2 made t1 t2 l0 (by omega) (by omega) (by omega) g0 g1 g2 q1 q2 (xs (i + 1))) dL_law_183 1 (gd_L mlL_27 im3_remove se3_remove ini3 cd3_remove) rfl ⟨rfl, rfl⟩ hd3_remove ⟨by decide, by decide⟩ ⟨by decide, by decide⟩ 25 rfl rfl ((atR hu1).trans rfl) [25, 26, 27, 28, 29, 30] nd6 (mapR hu1 rfl) rfl (Nat.le_of_ble_eq_true rfl) rfl (fun r2 u2 p2 e2 => ?_)
  have hu2 : u2.length = 6 := by simpa using congrArg List.length e2
  refine x_w (w' := u1 ++ u2) (putR hu1 rfl hu2) ?_
  obtain ⟨er, hT2⟩ := t_rem hI hc p1 p2
  refine x_icmp_eq (tg := 476) h (pc' := 189) rfl dL_law_186 (by decide) Iff.rfl (fun c186 => ?_) (fun c186 => ?_)
  · skip
    exact K u1 u2 hT2
  · skip
    exact absurd er c186
set_option maxRecDepth 100000 in
set_option maxHeartbeats 4000000 in
theorem law_get {X : XT} {l : Launch} {D : va_G} {cI cZ cS : ClassId} {b L : Nat} {xs : Nat → Int32} (hL : LX X l D cI cZ cS b L xs) {c i a o : Nat} {w1 w2 : va_W} (hT : TI c a o cI cZ cS w1 w2) (hi : i + 3 ≤ L) (hc : c ≤ 511) (K : ∀ u1 u2 : va_W, TI (c + 1) a o cI cZ cS u1 u2 → WX X 31 1067 476 [(3, .int (nI i)), (2, .ref o), (1, .ref a), (0, .ref b)] (u1 ++ u2) []) : WX X 31 1067 191 [(3, .int (nI i)), (2, .ref o), (1, .ref a), (0, .ref b)] (w1 ++ w2) [] := by
  obtain ⟨A, fk0, fv0, fr0, fd0, n0, fk3, fv3, fr3, fd3, n3, fk1, fv1, fr1, fd1, n1, fk2, fv2, fr2, fd2, n2, ft, fu, iu, a1, a2, a3, a4, a5, gc, gk, gv, gi, gh, made, dn, pe, so, fl, t1, t2, ct, ev, fe, d0, d1, d2, d3, i0, i1, i2, i3, rfl, rfl, rfl, hI⟩ := hT
  obtain ⟨⟨⟨l0, l3, l1, l2⟩, ⟨g0, g3, g1, g2⟩, q1, q2, q3, q4⟩, ⟨hpe, hct, hmd⟩, ⟨S0, K0, N0⟩, T1, T2, T12, TP⟩ := id hI
  have h := hL.1
  have hL5 := hL.2.2.2.2
  refine x_aload_n h (pc' := 192) rfl dL_law_191 2 rfl rfl ?_
  refine x_aload_n h (pc' := 193) rfl dL_law_192 3 rfl rfl ?_
  refine x_iload_n h (pc' := 194) rfl dL_law_193 0 rfl rfl ?_
  refine x_iconst (v := (nI 1)) h (pc' := 195) rfl dL_law_194 (by decide) ?_
  refine x_iadd (z := (nI (i + 1))) h (pc' := 196) rfl dL_law_195 (nI_add i 1) ?_
  refine x_sld hL (pc' := 197) rfl (by omega) dL_law_196 ?_
  refine x_vI h (pc' := 200) rfl [.int (xs (i + 1))] (k2_get l D cI cZ cS A fk0 fv0 fr0 fd0 n0 fk3 fv3 fr3 fd3 n3 fk1 fv1 fr1 fd1 n1 fk2 fv2 fr2 fd2 n2 ft fu iu dn (pe && so) (pe && fl) ct ev fe l0 l3 l1 l2 S0.2.2 (xs (i + 1))) dL_law_197 1 (gd_L mlL_28 im2_get se2_get ini2 cd2_get) rfl ⟨rfl, rfl⟩ hd2_get ⟨by decide, by decide⟩ ⟨by decide, by decide⟩ 0 rfl rfl rfl [0, 1, 2, 3, 4, 5, 6, 7, 8, 9, 10, 11, 12, 13, 14, 15, 16, 17, 18, 19, 20, 21, 22, 23, 24] nd25 (mapL rfl) rfl (Nat.le_of_ble_eq_true rfl) rfl (fun r1 u1 p1 e1 => ?_)
  have hu1 : u1.length = 25 := by simpa using congrArg List.length e1
  refine x_w (w' := u1 ++ wR o a1 a2 a3 a4 a5 cI cZ gc gk gv gi gh (nI made) (bi dn) (bi pe) (bi so) (bi fl) ct ev fe) (putL rfl hu1) ?_
  refine x_aload_n h (pc' := 201) rfl dL_law_200 1 rfl rfl ?_
  refine x_aload_n h (pc' := 202) rfl dL_law_201 3 rfl rfl ?_
  refine x_iload_n h (pc' := 203) rfl dL_law_202 0 rfl rfl ?_
  refine x_iconst (v := (nI 1)) h (pc' := 204) rfl dL_law_203 (by decide) ?_
  refine x_iadd (z := (nI (i + 1))) h (pc' := 205) rfl dL_law_204 (nI_add i 1) ?_
  refine x_sld hL (pc' := 206) rfl (by omega) dL_law_205 ?_
  refine x_vI h (pc' := 209) rfl [.int (xs (i + 1))] (k3_get l D cI cZ cS o a1 a2 a3 a4 a5 gc gk gv gi gh (nI made) ct ev fe dn pe so fl n0 (by omega) g0 (xs (i + 1))) dL_law_206 1 (gd_L mlL_31 im3_get se3_get ini3 cd3_get) rfl ⟨rfl, rfl⟩ hd3_get ⟨by decide, by decide⟩ ⟨by decide, by decide⟩ 25 rfl rfl ((atR hu1).trans rfl) [25, 26, 27, 28, 29, 30] nd6 (mapR hu1 rfl) rfl (Nat.le_of_ble_eq_true rfl) rfl (fun r2 u2 p2 e2 => ?_)
  have hu2 : u2.length = 6 := by simpa using congrArg List.length e2
  refine x_w (w' := u1 ++ u2) (putR hu1 rfl hu2) ?_
  obtain ⟨er, hT2⟩ := t_get hI p1 p2
  refine x_icmp_eq (tg := 476) h (pc' := 212) rfl dL_law_209 (by decide) Iff.rfl (fun c209 => ?_) (fun c209 => ?_)
  · skip
    exact K u1 u2 hT2
  · skip
    exact absurd er c209
set_option maxRecDepth 100000 in
set_option maxHeartbeats 4000000 in
theorem law_next {X : XT} {l : Launch} {D : va_G} {cI cZ cS : ClassId} {b L : Nat} {xs : Nat → Int32} (hL : LX X l D cI cZ cS b L xs) {c i a o : Nat} {w1 w2 : va_W} (hT : TI c a o cI cZ cS w1 w2) (hi : i + 3 ≤ L) (hc : c ≤ 511) (K : ∀ u1 u2 : va_W, TI (c + 1) a o cI cZ cS u1 u2 → WX X 31 1067 476 [(3, .int (nI i)), (2, .ref o), (1, .ref a), (0, .ref b)] (u1 ++ u2) []) : WX X 31 1067 214 [(3, .int (nI i)), (2, .ref o), (1, .ref a), (0, .ref b)] (w1 ++ w2) [] := by
  obtain ⟨A, fk0, fv0, fr0, fd0, n0, fk3, fv3, fr3, fd3, n3, fk1, fv1, fr1, fd1, n1, fk2, fv2, fr2, fd2, n2, ft, fu, iu, a1, a2, a3, a4, a5, gc, gk, gv, gi, gh, made, dn, pe, so, fl, t1, t2, ct, ev, fe, d0, d1, d2, d3, i0, i1, i2, i3, rfl, rfl, rfl, hI⟩ := hT
  obtain ⟨⟨⟨l0, l3, l1, l2⟩, ⟨g0, g3, g1, g2⟩, q1, q2, q3, q4⟩, ⟨hpe, hct, hmd⟩, ⟨S0, K0, N0⟩, T1, T2, T12, TP⟩ := id hI
  have h := hL.1
  have hL5 := hL.2.2.2.2
  refine x_aload_n h (pc' := 215) rfl dL_law_214 2 rfl rfl ?_
  refine x_aload_n h (pc' := 216) rfl dL_law_215 3 rfl rfl ?_
  refine x_iload_n h (pc' := 217) rfl dL_law_216 0 rfl rfl ?_
  refine x_iconst (v := (nI 1)) h (pc' := 218) rfl dL_law_217 (by decide) ?_
  refine x_iadd (z := (nI (i + 1))) h (pc' := 219) rfl dL_law_218 (nI_add i 1) ?_
  refine x_sld hL (pc' := 220) rfl (by omega) dL_law_219 ?_
  refine x_vI h (pc' := 223) rfl [.int (xs (i + 1))] (k2_next l D cI cZ cS A fk0 fv0 fr0 fd0 n0 fk3 fv3 fr3 fd3 n3 fk1 fv1 fr1 fd1 n1 fk2 fv2 fr2 fd2 n2 ft fu iu dn (pe && so) (pe && fl) ct ev fe l0 l3 l1 l2 (xs (i + 1))) dL_law_220 1 (gd_L mlL_32 im2_next se2_next ini2 cd2_next) rfl ⟨rfl, rfl⟩ hd2_next ⟨by decide, by decide⟩ ⟨by decide, by decide⟩ 0 rfl rfl rfl [0, 1, 2, 3, 4, 5, 6, 7, 8, 9, 10, 11, 12, 13, 14, 15, 16, 17, 18, 19, 20, 21, 22, 23, 24] nd25 (mapL rfl) rfl (Nat.le_of_ble_eq_true rfl) rfl (fun r1 u1 p1 e1 => ?_)
  have hu1 : u1.length = 25 := by simpa using congrArg List.length e1
  refine x_w (w' := u1 ++ wR o a1 a2 a3 a4 a5 cI cZ gc gk gv gi gh (nI made) (bi dn) (bi pe) (bi so) (bi fl) ct ev fe) (putL rfl hu1) ?_
  refine x_aload_n h (pc' := 224) rfl dL_law_223 1 rfl rfl ?_
  refine x_aload_n h (pc' := 225) rfl dL_law_224 3 rfl rfl ?_
  refine x_iload_n h (pc' := 226) rfl dL_law_225 0 rfl rfl ?_
  refine x_iconst (v := (nI 1)) h (pc' := 227) rfl dL_law_226 (by decide) ?_
  refine x_iadd (z := (nI (i + 1))) h (pc' := 228) rfl dL_law_227 (nI_add i 1) ?_
  refine x_sld hL (pc' := 229) rfl (by omega) dL_law_228 ?_
  refine x_vI h (pc' := 232) rfl [.int (xs (i + 1))] (k3_next l D cI cZ cS o a1 a2 a3 a4 a5 gc gk gv gi gh (nI made) ct ev fe dn pe so fl n0 (by omega) g0 (xs (i + 1))) dL_law_229 1 (gd_L mlL_35 im3_next se3_next ini3 cd3_next) rfl ⟨rfl, rfl⟩ hd3_next ⟨by decide, by decide⟩ ⟨by decide, by decide⟩ 25 rfl rfl ((atR hu1).trans rfl) [25, 26, 27, 28, 29, 30] nd6 (mapR hu1 rfl) rfl (Nat.le_of_ble_eq_true rfl) rfl (fun r2 u2 p2 e2 => ?_)
  have hu2 : u2.length = 6 := by simpa using congrArg List.length e2
  refine x_w (w' := u1 ++ u2) (putR hu1 rfl hu2) ?_
  obtain ⟨er, hT2⟩ := t_next hI p1 p2
  refine x_icmp_eq (tg := 476) h (pc' := 235) rfl dL_law_232 (by decide) Iff.rfl (fun c232 => ?_) (fun c232 => ?_)
  · skip
    exact K u1 u2 hT2
  · skip
    exact absurd er c232
set_option maxRecDepth 100000 in
set_option maxHeartbeats 4000000 in
theorem law_depth {X : XT} {l : Launch} {D : va_G} {cI cZ cS : ClassId} {b L : Nat} {xs : Nat → Int32} (hL : LX X l D cI cZ cS b L xs) {c i a o : Nat} {w1 w2 : va_W} (hT : TI c a o cI cZ cS w1 w2) (hi : i + 3 ≤ L) (hc : c ≤ 511) (K : ∀ u1 u2 : va_W, TI (c + 1) a o cI cZ cS u1 u2 → WX X 31 1067 476 [(3, .int (nI i)), (2, .ref o), (1, .ref a), (0, .ref b)] (u1 ++ u2) []) : WX X 31 1067 237 [(3, .int (nI i)), (2, .ref o), (1, .ref a), (0, .ref b)] (w1 ++ w2) [] := by
  obtain ⟨A, fk0, fv0, fr0, fd0, n0, fk3, fv3, fr3, fd3, n3, fk1, fv1, fr1, fd1, n1, fk2, fv2, fr2, fd2, n2, ft, fu, iu, a1, a2, a3, a4, a5, gc, gk, gv, gi, gh, made, dn, pe, so, fl, t1, t2, ct, ev, fe, d0, d1, d2, d3, i0, i1, i2, i3, rfl, rfl, rfl, hI⟩ := hT
  obtain ⟨⟨⟨l0, l3, l1, l2⟩, ⟨g0, g3, g1, g2⟩, q1, q2, q3, q4⟩, ⟨hpe, hct, hmd⟩, ⟨S0, K0, N0⟩, T1, T2, T12, TP⟩ := id hI
  have h := hL.1
  have hL5 := hL.2.2.2.2
  refine x_aload_n h (pc' := 238) rfl dL_law_237 2 rfl rfl ?_
  refine x_aload_n h (pc' := 239) rfl dL_law_238 3 rfl rfl ?_
  refine x_iload_n h (pc' := 240) rfl dL_law_239 0 rfl rfl ?_
  refine x_iconst (v := (nI 1)) h (pc' := 241) rfl dL_law_240 (by decide) ?_
  refine x_iadd (z := (nI (i + 1))) h (pc' := 242) rfl dL_law_241 (nI_add i 1) ?_
  refine x_sld hL (pc' := 243) rfl (by omega) dL_law_242 ?_
  refine x_vI h (pc' := 246) rfl [.int (xs (i + 1))] (k2_depth l D cI cZ cS A fk0 fv0 fr0 fd0 n0 fk3 fv3 fr3 fd3 n3 fk1 fv1 fr1 fd1 n1 fk2 fv2 fr2 fd2 n2 ft fu iu dn (pe && so) (pe && fl) ct ev fe l0 l3 l1 l2 S0.2.2 (xs (i + 1))) dL_law_243 1 (gd_L mlL_36 im2_depth se2_depth ini2 cd2_depth) rfl ⟨rfl, rfl⟩ hd2_depth ⟨by decide, by decide⟩ ⟨by decide, by decide⟩ 0 rfl rfl rfl [0, 1, 2, 3, 4, 5, 6, 7, 8, 9, 10, 11, 12, 13, 14, 15, 16, 17, 18, 19, 20, 21, 22, 23, 24] nd25 (mapL rfl) rfl (Nat.le_of_ble_eq_true rfl) rfl (fun r1 u1 p1 e1 => ?_)
  have hu1 : u1.length = 25 := by simpa using congrArg List.length e1
  refine x_w (w' := u1 ++ wR o a1 a2 a3 a4 a5 cI cZ gc gk gv gi gh (nI made) (bi dn) (bi pe) (bi so) (bi fl) ct ev fe) (putL rfl hu1) ?_
  refine x_aload_n h (pc' := 247) rfl dL_law_246 1 rfl rfl ?_
  refine x_aload_n h (pc' := 248) rfl dL_law_247 3 rfl rfl ?_
  refine x_iload_n h (pc' := 249) rfl dL_law_248 0 rfl rfl ?_
  refine x_iconst (v := (nI 1)) h (pc' := 250) rfl dL_law_249 (by decide) ?_
  refine x_iadd (z := (nI (i + 1))) h (pc' := 251) rfl dL_law_250 (nI_add i 1) ?_
  refine x_sld hL (pc' := 252) rfl (by omega) dL_law_251 ?_
  refine x_vI h (pc' := 255) rfl [.int (xs (i + 1))] (k3_depth l D cI cZ cS o a1 a2 a3 a4 a5 gc gk gv gi gh (nI made) ct ev fe dn pe so fl n0 (by omega) g0 (xs (i + 1))) dL_law_252 1 (gd_L mlL_39 im3_depth se3_depth ini3 cd3_depth) rfl ⟨rfl, rfl⟩ hd3_depth ⟨by decide, by decide⟩ ⟨by decide, by decide⟩ 25 rfl rfl ((atR hu1).trans rfl) [25, 26, 27, 28, 29, 30] nd6 (mapR hu1 rfl) rfl (Nat.le_of_ble_eq_true rfl) rfl (fun r2 u2 p2 e2 => ?_)
  have hu2 : u2.length = 6 := by simpa using congrArg List.length e2
  refine x_w (w' := u1 ++ u2) (putR hu1 rfl hu2) ?_
  obtain ⟨er, hT2⟩ := t_depth hI p1 p2
  refine x_icmp_eq (tg := 476) h (pc' := 258) rfl dL_law_255 (by decide) Iff.rfl (fun c255 => ?_) (fun c255 => ?_)
  · skip
    exact K u1 u2 hT2
  · skip
    exact absurd er c255
set_option maxRecDepth 100000 in
set_option maxHeartbeats 4000000 in
theorem law_size {X : XT} {l : Launch} {D : va_G} {cI cZ cS : ClassId} {b L : Nat} {xs : Nat → Int32} (hL : LX X l D cI cZ cS b L xs) {c i a o : Nat} {w1 w2 : va_W} (hT : TI c a o cI cZ cS w1 w2) (hi : i + 3 ≤ L) (hc : c ≤ 511) (K : ∀ u1 u2 : va_W, TI (c + 1) a o cI cZ cS u1 u2 → WX X 31 1067 476 [(3, .int (nI i)), (2, .ref o), (1, .ref a), (0, .ref b)] (u1 ++ u2) []) : WX X 31 1067 260 [(3, .int (nI i)), (2, .ref o), (1, .ref a), (0, .ref b)] (w1 ++ w2) [] := by
  obtain ⟨A, fk0, fv0, fr0, fd0, n0, fk3, fv3, fr3, fd3, n3, fk1, fv1, fr1, fd1, n1, fk2, fv2, fr2, fd2, n2, ft, fu, iu, a1, a2, a3, a4, a5, gc, gk, gv, gi, gh, made, dn, pe, so, fl, t1, t2, ct, ev, fe, d0, d1, d2, d3, i0, i1, i2, i3, rfl, rfl, rfl, hI⟩ := hT
  obtain ⟨⟨⟨l0, l3, l1, l2⟩, ⟨g0, g3, g1, g2⟩, q1, q2, q3, q4⟩, ⟨hpe, hct, hmd⟩, ⟨S0, K0, N0⟩, T1, T2, T12, TP⟩ := id hI
  have h := hL.1
  have hL5 := hL.2.2.2.2
  refine x_aload_n h (pc' := 261) rfl dL_law_260 2 rfl rfl ?_
  refine x_vI h (pc' := 264) rfl [] (k2_size l D cI cZ cS A fk0 fv0 fr0 fd0 n0 fk3 fv3 fr3 fd3 n3 fk1 fv1 fr1 fd1 n1 fk2 fv2 fr2 fd2 n2 ft fu iu dn (pe && so) (pe && fl) ct ev fe l0 l3 l1 l2) dL_law_261 0 (gd_L mlL_40 im2_size se2_size ini2 cd2_size) rfl ⟨rfl, rfl⟩ hd2_size ⟨by decide, by decide⟩ ⟨by decide, by decide⟩ 0 rfl rfl rfl [0, 1, 2, 3, 4, 5, 6, 7, 8, 9, 10, 11, 12, 13, 14, 15, 16, 17, 18, 19, 20, 21, 22, 23, 24] nd25 (mapL rfl) rfl (Nat.le_of_ble_eq_true rfl) rfl (fun r1 u1 p1 e1 => ?_)
  have hu1 : u1.length = 25 := by simpa using congrArg List.length e1
  refine x_w (w' := u1 ++ wR o a1 a2 a3 a4 a5 cI cZ gc gk gv gi gh (nI made) (bi dn) (bi pe) (bi so) (bi fl) ct ev fe) (putL rfl hu1) ?_
  refine x_aload_n h (pc' := 265) rfl dL_law_264 1 rfl rfl ?_
  refine x_vI h (pc' := 268) rfl [] (k3_size l D cI cZ cS o a1 a2 a3 a4 a5 gc gk gv gi gh (nI made) ct ev fe dn pe so fl n0 (by omega) g0) dL_law_265 0 (gd_L mlL_44 im3_size se3_size ini3 cd3_size) rfl ⟨rfl, rfl⟩ hd3_size ⟨by decide, by decide⟩ ⟨by decide, by decide⟩ 25 rfl rfl ((atR hu1).trans rfl) [25, 26, 27, 28, 29, 30] nd6 (mapR hu1 rfl) rfl (Nat.le_of_ble_eq_true rfl) rfl (fun r2 u2 p2 e2 => ?_)
  have hu2 : u2.length = 6 := by simpa using congrArg List.length e2
  refine x_w (w' := u1 ++ u2) (putR hu1 rfl hu2) ?_
  obtain ⟨er, hT2⟩ := t_size hI p1 p2
  refine x_icmp_eq (tg := 476) h (pc' := 271) rfl dL_law_268 (by decide) Iff.rfl (fun c268 => ?_) (fun c268 => ?_)
  · skip
    exact K u1 u2 hT2
  · skip
    exact absurd er c268
set_option maxRecDepth 100000 in
set_option maxHeartbeats 4000000 in
theorem law_nodes {X : XT} {l : Launch} {D : va_G} {cI cZ cS : ClassId} {b L : Nat} {xs : Nat → Int32} (hL : LX X l D cI cZ cS b L xs) {c i a o : Nat} {w1 w2 : va_W} (hT : TI c a o cI cZ cS w1 w2) (hi : i + 3 ≤ L) (hc : c ≤ 511) (K : ∀ u1 u2 : va_W, TI (c + 1) a o cI cZ cS u1 u2 → WX X 31 1067 476 [(3, .int (nI i)), (2, .ref o), (1, .ref a), (0, .ref b)] (u1 ++ u2) []) : WX X 31 1067 273 [(3, .int (nI i)), (2, .ref o), (1, .ref a), (0, .ref b)] (w1 ++ w2) [] := by
  obtain ⟨A, fk0, fv0, fr0, fd0, n0, fk3, fv3, fr3, fd3, n3, fk1, fv1, fr1, fd1, n1, fk2, fv2, fr2, fd2, n2, ft, fu, iu, a1, a2, a3, a4, a5, gc, gk, gv, gi, gh, made, dn, pe, so, fl, t1, t2, ct, ev, fe, d0, d1, d2, d3, i0, i1, i2, i3, rfl, rfl, rfl, hI⟩ := hT
  obtain ⟨⟨⟨l0, l3, l1, l2⟩, ⟨g0, g3, g1, g2⟩, q1, q2, q3, q4⟩, ⟨hpe, hct, hmd⟩, ⟨S0, K0, N0⟩, T1, T2, T12, TP⟩ := id hI
  have h := hL.1
  have hL5 := hL.2.2.2.2
  refine x_aload_n h (pc' := 274) rfl dL_law_273 2 rfl rfl ?_
  refine x_vI h (pc' := 277) rfl [] (k2_nodes l D cI cZ cS A fk0 fv0 fr0 fd0 n0 fk3 fv3 fr3 fd3 n3 fk1 fv1 fr1 fd1 n1 fk2 fv2 fr2 fd2 n2 ft fu iu dn (pe && so) (pe && fl) ct ev fe l0 l3 l1 l2 t1 t2 q3 q4 d0 d1 d2 N0.1 (fun h => (T1 h).2.1.1) (fun h => (T2 h).2.1.1)) dL_law_274 0 (gd_L mlL_45 im2_nodes se2_nodes ini2 cd2_nodes) rfl ⟨rfl, rfl⟩ hd2_nodes ⟨by decide, by decide⟩ ⟨by decide, by decide⟩ 0 rfl rfl rfl [0, 1, 2, 3, 4, 5, 6, 7, 8, 9, 10, 11, 12, 13, 14, 15, 16, 17, 18, 19, 20, 21, 22, 23, 24] nd25 (mapL rfl) rfl (Nat.le_of_ble_eq_true rfl) rfl (fun r1 u1 p1 e1 => ?_)
  have hu1 : u1.length = 25 := by simpa using congrArg List.length e1
  refine x_w (w' := u1 ++ wR o a1 a2 a3 a4 a5 cI cZ gc gk gv gi gh (nI made) (bi dn) (bi pe) (bi so) (bi fl) ct ev fe) (putL rfl hu1) ?_
  refine x_aload_n h (pc' := 278) rfl dL_law_277 1 rfl rfl ?_
  refine x_vI h (pc' := 281) rfl [] (k3_nodes l D cI cZ cS o a1 a2 a3 a4 a5 gc gk gv gi gh (nI made) ct ev fe dn pe so fl n0 n1 n2 t1 t2 (by omega) (by omega) (by omega) g0 g1 g2 q1 q2) dL_law_278 0 (gd_L mlL_48 im3_nodes se3_nodes ini3 cd3_nodes) rfl ⟨rfl, rfl⟩ hd3_nodes ⟨by decide, by decide⟩ ⟨by decide, by decide⟩ 25 rfl rfl ((atR hu1).trans rfl) [25, 26, 27, 28, 29, 30] nd6 (mapR hu1 rfl) rfl (Nat.le_of_ble_eq_true rfl) rfl (fun r2 u2 p2 e2 => ?_)
  have hu2 : u2.length = 6 := by simpa using congrArg List.length e2
  refine x_w (w' := u1 ++ u2) (putR hu1 rfl hu2) ?_
  obtain ⟨er, hT2⟩ := t_nodes hI hc p1 p2
  refine x_icmp_eq (tg := 476) h (pc' := 284) rfl dL_law_281 (by decide) Iff.rfl (fun c281 => ?_) (fun c281 => ?_)
  · skip
    exact K u1 u2 hT2
  · skip
    exact absurd er c281
set_option maxRecDepth 100000 in
set_option maxHeartbeats 4000000 in
theorem law_hold {X : XT} {l : Launch} {D : va_G} {cI cZ cS : ClassId} {b L : Nat} {xs : Nat → Int32} (hL : LX X l D cI cZ cS b L xs) {c i a o : Nat} {w1 w2 : va_W} (hT : TI c a o cI cZ cS w1 w2) (hi : i + 3 ≤ L) (hc : c ≤ 511) (K : ∀ u1 u2 : va_W, TI (c + 1) a o cI cZ cS u1 u2 → WX X 31 1067 476 [(3, .int (nI i)), (2, .ref o), (1, .ref a), (0, .ref b)] (u1 ++ u2) []) : WX X 31 1067 286 [(3, .int (nI i)), (2, .ref o), (1, .ref a), (0, .ref b)] (w1 ++ w2) [] := by
  obtain ⟨A, fk0, fv0, fr0, fd0, n0, fk3, fv3, fr3, fd3, n3, fk1, fv1, fr1, fd1, n1, fk2, fv2, fr2, fd2, n2, ft, fu, iu, a1, a2, a3, a4, a5, gc, gk, gv, gi, gh, made, dn, pe, so, fl, t1, t2, ct, ev, fe, d0, d1, d2, d3, i0, i1, i2, i3, rfl, rfl, rfl, hI⟩ := hT
  obtain ⟨⟨⟨l0, l3, l1, l2⟩, ⟨g0, g3, g1, g2⟩, q1, q2, q3, q4⟩, ⟨hpe, hct, hmd⟩, ⟨S0, K0, N0⟩, T1, T2, T12, TP⟩ := id hI
  have h := hL.1
  have hL5 := hL.2.2.2.2
  refine x_aload_n h (pc' := 287) rfl dL_law_286 2 rfl rfl ?_
  refine x_aload_n h (pc' := 288) rfl dL_law_287 3 rfl rfl ?_
  refine x_iload_n h (pc' := 289) rfl dL_law_288 0 rfl rfl ?_
  refine x_iconst (v := (nI 1)) h (pc' := 290) rfl dL_law_289 (by decide) ?_
  refine x_iadd (z := (nI (i + 1))) h (pc' := 291) rfl dL_law_290 (nI_add i 1) ?_
  refine x_sld hL (pc' := 292) rfl (by omega) dL_law_291 ?_
  refine x_vI h (pc' := 295) rfl [.int (xs (i + 1))] (k2_hold l D cI cZ cS A fk0 fv0 fr0 fd0 n0 fk3 fv3 fr3 fd3 n3 fk1 fv1 fr1 fd1 n1 fk2 fv2 fr2 fd2 n2 ft fu iu dn (pe && so) (pe && fl) ct ev fe l0 l3 l1 l2 t1 t2 q3 q4 (xs (i + 1))) dL_law_292 1 (gd_L mlL_49 im2_hold se2_hold ini2 cd2_hold) rfl ⟨rfl, rfl⟩ hd2_hold ⟨by decide, by decide⟩ ⟨by decide, by decide⟩ 0 rfl rfl rfl [0, 1, 2, 3, 4, 5, 6, 7, 8, 9, 10, 11, 12, 13, 14, 15, 16, 17, 18, 19, 20, 21, 22, 23, 24] nd25 (mapL rfl) rfl (Nat.le_of_ble_eq_true rfl) rfl (fun r1 u1 p1 e1 => ?_)
  have hu1 : u1.length = 25 := by simpa using congrArg List.length e1
  refine x_w (w' := u1 ++ wR o a1 a2 a3 a4 a5 cI cZ gc gk gv gi gh (nI made) (bi dn) (bi pe) (bi so) (bi fl) ct ev fe) (putL rfl hu1) ?_
  refine x_aload_n h (pc' := 296) rfl dL_law_295 1 rfl rfl ?_
  refine x_aload_n h (pc' := 297) rfl dL_law_296 3 rfl rfl ?_
  refine x_iload_n h (pc' := 298) rfl dL_law_297 0 rfl rfl ?_
  refine x_iconst (v := (nI 1)) h (pc' := 299) rfl dL_law_298 (by decide) ?_
  refine x_iadd (z := (nI (i + 1))) h (pc' := 300) rfl dL_law_299 (nI_add i 1) ?_
  refine x_sld hL (pc' := 301) rfl (by omega) dL_law_300 ?_
  refine x_vI h (pc' := 304) rfl [.int (xs (i + 1))] (k3_hold l D cI cZ cS o a1 a2 a3 a4 a5 gc gk gv gi gh (nI made) ct ev fe dn pe so fl n0 (by omega) g0 t1 t2 q1 q2 (xs (i + 1))) dL_law_301 1 (gd_L mlL_52 im3_hold se3_hold ini3 cd3_hold) rfl ⟨rfl, rfl⟩ hd3_hold ⟨by decide, by decide⟩ ⟨by decide, by decide⟩ 25 rfl rfl ((atR hu1).trans rfl) [25, 26, 27, 28, 29, 30] nd6 (mapR hu1 rfl) rfl (Nat.le_of_ble_eq_true rfl) rfl (fun r2 u2 p2 e2 => ?_)
  have hu2 : u2.length = 6 := by simpa using congrArg List.length e2
  refine x_w (w' := u1 ++ u2) (putR hu1 rfl hu2) ?_
  obtain ⟨er, hT2⟩ := t_hold hI p1 p2
  refine x_icmp_eq (tg := 476) h (pc' := 307) rfl dL_law_304 (by decide) Iff.rfl (fun c304 => ?_) (fun c304 => ?_)
  · skip
    exact K u1 u2 hT2
  · skip
    exact absurd er c304
set_option maxRecDepth 100000 in
set_option maxHeartbeats 4000000 in
theorem law_release {X : XT} {l : Launch} {D : va_G} {cI cZ cS : ClassId} {b L : Nat} {xs : Nat → Int32} (hL : LX X l D cI cZ cS b L xs) {c i a o : Nat} {w1 w2 : va_W} (hT : TI c a o cI cZ cS w1 w2) (hi : i + 3 ≤ L) (hc : c ≤ 511) (K : ∀ u1 u2 : va_W, TI (c + 1) a o cI cZ cS u1 u2 → WX X 31 1067 476 [(3, .int (nI i)), (2, .ref o), (1, .ref a), (0, .ref b)] (u1 ++ u2) []) : WX X 31 1067 309 [(3, .int (nI i)), (2, .ref o), (1, .ref a), (0, .ref b)] (w1 ++ w2) [] := by
  obtain ⟨A, fk0, fv0, fr0, fd0, n0, fk3, fv3, fr3, fd3, n3, fk1, fv1, fr1, fd1, n1, fk2, fv2, fr2, fd2, n2, ft, fu, iu, a1, a2, a3, a4, a5, gc, gk, gv, gi, gh, made, dn, pe, so, fl, t1, t2, ct, ev, fe, d0, d1, d2, d3, i0, i1, i2, i3, rfl, rfl, rfl, hI⟩ := hT
  obtain ⟨⟨⟨l0, l3, l1, l2⟩, ⟨g0, g3, g1, g2⟩, q1, q2, q3, q4⟩, ⟨hpe, hct, hmd⟩, ⟨S0, K0, N0⟩, T1, T2, T12, TP⟩ := id hI
  have h := hL.1
  have hL5 := hL.2.2.2.2
  refine x_aload_n h (pc' := 310) rfl dL_law_309 2 rfl rfl ?_
  refine x_aload_n h (pc' := 311) rfl dL_law_310 3 rfl rfl ?_
  refine x_iload_n h (pc' := 312) rfl dL_law_311 0 rfl rfl ?_
  refine x_iconst (v := (nI 1)) h (pc' := 313) rfl dL_law_312 (by decide) ?_
  refine x_iadd (z := (nI (i + 1))) h (pc' := 314) rfl dL_law_313 (nI_add i 1) ?_
  refine x_sld hL (pc' := 315) rfl (by omega) dL_law_314 ?_
  refine x_vI h (pc' := 318) rfl [.int (xs (i + 1))] (k2_release l D cI cZ cS A fk0 fv0 fr0 fd0 n0 fk3 fv3 fr3 fd3 n3 fk1 fv1 fr1 fd1 n1 fk2 fv2 fr2 fd2 n2 ft fu iu dn (pe && so) (pe && fl) ct ev fe l0 l3 l1 l2 t1 t2 q3 q4 (xs (i + 1))) dL_law_315 1 (gd_L mlL_53 im2_release se2_release ini2 cd2_release) rfl ⟨rfl, rfl⟩ hd2_release ⟨by decide, by decide⟩ ⟨by decide, by decide⟩ 0 rfl rfl rfl [0, 1, 2, 3, 4, 5, 6, 7, 8, 9, 10, 11, 12, 13, 14, 15, 16, 17, 18, 19, 20, 21, 22, 23, 24] nd25 (mapL rfl) rfl (Nat.le_of_ble_eq_true rfl) rfl (fun r1 u1 p1 e1 => ?_)
  have hu1 : u1.length = 25 := by simpa using congrArg List.length e1
  refine x_w (w' := u1 ++ wR o a1 a2 a3 a4 a5 cI cZ gc gk gv gi gh (nI made) (bi dn) (bi pe) (bi so) (bi fl) ct ev fe) (putL rfl hu1) ?_
  refine x_aload_n h (pc' := 319) rfl dL_law_318 1 rfl rfl ?_
  refine x_aload_n h (pc' := 320) rfl dL_law_319 3 rfl rfl ?_
  refine x_iload_n h (pc' := 321) rfl dL_law_320 0 rfl rfl ?_
  refine x_iconst (v := (nI 1)) h (pc' := 322) rfl dL_law_321 (by decide) ?_
  refine x_iadd (z := (nI (i + 1))) h (pc' := 323) rfl dL_law_322 (nI_add i 1) ?_
  refine x_sld hL (pc' := 324) rfl (by omega) dL_law_323 ?_
  refine x_vI h (pc' := 327) rfl [.int (xs (i + 1))] (k3_release l D cI cZ cS o a1 a2 a3 a4 a5 gc gk gv gi gh (nI made) ct ev fe dn pe so fl t1 t2 q1 q2 (xs (i + 1))) dL_law_324 1 (gd_L mlL_56 im3_release se3_release ini3 cd3_release) rfl ⟨rfl, rfl⟩ hd3_release ⟨by decide, by decide⟩ ⟨by decide, by decide⟩ 25 rfl rfl ((atR hu1).trans rfl) [25, 26, 27, 28, 29, 30] nd6 (mapR hu1 rfl) rfl (Nat.le_of_ble_eq_true rfl) rfl (fun r2 u2 p2 e2 => ?_)
  have hu2 : u2.length = 6 := by simpa using congrArg List.length e2
  refine x_w (w' := u1 ++ u2) (putR hu1 rfl hu2) ?_
  obtain ⟨er, hT2⟩ := t_release hI p1 p2
  refine x_icmp_eq (tg := 476) h (pc' := 330) rfl dL_law_327 (by decide) Iff.rfl (fun c327 => ?_) (fun c327 => ?_)
  · skip
    exact K u1 u2 hT2
  · skip
    exact absurd er c327
set_option maxRecDepth 100000 in
set_option maxHeartbeats 4000000 in
theorem law_heldGet {X : XT} {l : Launch} {D : va_G} {cI cZ cS : ClassId} {b L : Nat} {xs : Nat → Int32} (hL : LX X l D cI cZ cS b L xs) {c i a o : Nat} {w1 w2 : va_W} (hT : TI c a o cI cZ cS w1 w2) (hi : i + 3 ≤ L) (hc : c ≤ 511) (K : ∀ u1 u2 : va_W, TI (c + 1) a o cI cZ cS u1 u2 → WX X 31 1067 476 [(3, .int (nI i)), (2, .ref o), (1, .ref a), (0, .ref b)] (u1 ++ u2) []) : WX X 31 1067 332 [(3, .int (nI i)), (2, .ref o), (1, .ref a), (0, .ref b)] (w1 ++ w2) [] := by
  obtain ⟨A, fk0, fv0, fr0, fd0, n0, fk3, fv3, fr3, fd3, n3, fk1, fv1, fr1, fd1, n1, fk2, fv2, fr2, fd2, n2, ft, fu, iu, a1, a2, a3, a4, a5, gc, gk, gv, gi, gh, made, dn, pe, so, fl, t1, t2, ct, ev, fe, d0, d1, d2, d3, i0, i1, i2, i3, rfl, rfl, rfl, hI⟩ := hT
  obtain ⟨⟨⟨l0, l3, l1, l2⟩, ⟨g0, g3, g1, g2⟩, q1, q2, q3, q4⟩, ⟨hpe, hct, hmd⟩, ⟨S0, K0, N0⟩, T1, T2, T12, TP⟩ := id hI
  have h := hL.1
  have hL5 := hL.2.2.2.2
  refine x_aload_n h (pc' := 333) rfl dL_law_332 2 rfl rfl ?_
  refine x_aload_n h (pc' := 334) rfl dL_law_333 3 rfl rfl ?_
  refine x_iload_n h (pc' := 335) rfl dL_law_334 0 rfl rfl ?_
  refine x_iconst (v := (nI 1)) h (pc' := 336) rfl dL_law_335 (by decide) ?_
  refine x_iadd (z := (nI (i + 1))) h (pc' := 337) rfl dL_law_336 (nI_add i 1) ?_
  refine x_sld hL (pc' := 338) rfl (by omega) dL_law_337 ?_
  refine x_aload_n h (pc' := 339) rfl dL_law_338 3 rfl rfl ?_
  refine x_iload_n h (pc' := 340) rfl dL_law_339 0 rfl rfl ?_
  refine x_iconst (v := (nI 2)) h (pc' := 341) rfl dL_law_340 (by decide) ?_
  refine x_iadd (z := (nI (i + 2))) h (pc' := 342) rfl dL_law_341 (nI_add i 2) ?_
  refine x_sld hL (pc' := 343) rfl (by omega) dL_law_342 ?_
  refine x_vI h (pc' := 346) rfl [.int (xs (i + 1)), .int (xs (i + 2))] (k2_heldGet l D cI cZ cS A fk0 fv0 fr0 fd0 n0 fk3 fv3 fr3 fd3 n3 fk1 fv1 fr1 fd1 n1 fk2 fv2 fr2 fd2 n2 ft fu iu dn (pe && so) (pe && fl) ct ev fe l0 l3 l1 l2 t1 t2 q3 q4 (fun h => (T1 h).1.2.2) (fun h => (T2 h).1.2.2) (xs (i + 1)) (xs (i + 2))) dL_law_343 2 (gd_L mlL_57 im2_heldGet se2_heldGet ini2 cd2_heldGet) rfl ⟨rfl, rfl⟩ hd2_heldGet ⟨by decide, by decide⟩ ⟨by decide, by decide⟩ 0 rfl rfl rfl [0, 1, 2, 3, 4, 5, 6, 7, 8, 9, 10, 11, 12, 13, 14, 15, 16, 17, 18, 19, 20, 21, 22, 23, 24] nd25 (mapL rfl) rfl (Nat.le_of_ble_eq_true rfl) rfl (fun r1 u1 p1 e1 => ?_)
  have hu1 : u1.length = 25 := by simpa using congrArg List.length e1
  refine x_w (w' := u1 ++ wR o a1 a2 a3 a4 a5 cI cZ gc gk gv gi gh (nI made) (bi dn) (bi pe) (bi so) (bi fl) ct ev fe) (putL rfl hu1) ?_
  refine x_aload_n h (pc' := 347) rfl dL_law_346 1 rfl rfl ?_
  refine x_aload_n h (pc' := 348) rfl dL_law_347 3 rfl rfl ?_
  refine x_iload_n h (pc' := 349) rfl dL_law_348 0 rfl rfl ?_
  refine x_iconst (v := (nI 1)) h (pc' := 350) rfl dL_law_349 (by decide) ?_
  refine x_iadd (z := (nI (i + 1))) h (pc' := 351) rfl dL_law_350 (nI_add i 1) ?_
  refine x_sld hL (pc' := 352) rfl (by omega) dL_law_351 ?_
  refine x_aload_n h (pc' := 353) rfl dL_law_352 3 rfl rfl ?_
  refine x_iload_n h (pc' := 354) rfl dL_law_353 0 rfl rfl ?_
  refine x_iconst (v := (nI 2)) h (pc' := 355) rfl dL_law_354 (by decide) ?_
  refine x_iadd (z := (nI (i + 2))) h (pc' := 356) rfl dL_law_355 (nI_add i 2) ?_
  refine x_sld hL (pc' := 357) rfl (by omega) dL_law_356 ?_
  refine x_vI h (pc' := 360) rfl [.int (xs (i + 1)), .int (xs (i + 2))] (k3_heldGet l D cI cZ cS o a1 a2 a3 a4 a5 gc gk gv gi gh (nI made) ct ev fe dn pe so fl n1 n2 (by omega) (by omega) g1 g2 t1 t2 q1 q2 (xs (i + 1)) (xs (i + 2))) dL_law_357 2 (gd_L mlL_60 im3_heldGet se3_heldGet ini3 cd3_heldGet) rfl ⟨rfl, rfl⟩ hd3_heldGet ⟨by decide, by decide⟩ ⟨by decide, by decide⟩ 25 rfl rfl ((atR hu1).trans rfl) [25, 26, 27, 28, 29, 30] nd6 (mapR hu1 rfl) rfl (Nat.le_of_ble_eq_true rfl) rfl (fun r2 u2 p2 e2 => ?_)
  have hu2 : u2.length = 6 := by simpa using congrArg List.length e2
  refine x_w (w' := u1 ++ u2) (putR hu1 rfl hu2) ?_
  obtain ⟨er, hT2⟩ := t_heldGet hI p1 p2
  refine x_icmp_eq (tg := 476) h (pc' := 363) rfl dL_law_360 (by decide) Iff.rfl (fun c360 => ?_) (fun c360 => ?_)
  · skip
    exact K u1 u2 hT2
  · skip
    exact absurd er c360
set_option maxRecDepth 100000 in
set_option maxHeartbeats 4000000 in
theorem law_heldNext {X : XT} {l : Launch} {D : va_G} {cI cZ cS : ClassId} {b L : Nat} {xs : Nat → Int32} (hL : LX X l D cI cZ cS b L xs) {c i a o : Nat} {w1 w2 : va_W} (hT : TI c a o cI cZ cS w1 w2) (hi : i + 3 ≤ L) (hc : c ≤ 511) (K : ∀ u1 u2 : va_W, TI (c + 1) a o cI cZ cS u1 u2 → WX X 31 1067 476 [(3, .int (nI i)), (2, .ref o), (1, .ref a), (0, .ref b)] (u1 ++ u2) []) : WX X 31 1067 365 [(3, .int (nI i)), (2, .ref o), (1, .ref a), (0, .ref b)] (w1 ++ w2) [] := by
  obtain ⟨A, fk0, fv0, fr0, fd0, n0, fk3, fv3, fr3, fd3, n3, fk1, fv1, fr1, fd1, n1, fk2, fv2, fr2, fd2, n2, ft, fu, iu, a1, a2, a3, a4, a5, gc, gk, gv, gi, gh, made, dn, pe, so, fl, t1, t2, ct, ev, fe, d0, d1, d2, d3, i0, i1, i2, i3, rfl, rfl, rfl, hI⟩ := hT
  obtain ⟨⟨⟨l0, l3, l1, l2⟩, ⟨g0, g3, g1, g2⟩, q1, q2, q3, q4⟩, ⟨hpe, hct, hmd⟩, ⟨S0, K0, N0⟩, T1, T2, T12, TP⟩ := id hI
  have h := hL.1
  have hL5 := hL.2.2.2.2
  refine x_aload_n h (pc' := 366) rfl dL_law_365 2 rfl rfl ?_
  refine x_aload_n h (pc' := 367) rfl dL_law_366 3 rfl rfl ?_
  refine x_iload_n h (pc' := 368) rfl dL_law_367 0 rfl rfl ?_
  refine x_iconst (v := (nI 1)) h (pc' := 369) rfl dL_law_368 (by decide) ?_
  refine x_iadd (z := (nI (i + 1))) h (pc' := 370) rfl dL_law_369 (nI_add i 1) ?_
  refine x_sld hL (pc' := 371) rfl (by omega) dL_law_370 ?_
  refine x_aload_n h (pc' := 372) rfl dL_law_371 3 rfl rfl ?_
  refine x_iload_n h (pc' := 373) rfl dL_law_372 0 rfl rfl ?_
  refine x_iconst (v := (nI 2)) h (pc' := 374) rfl dL_law_373 (by decide) ?_
  refine x_iadd (z := (nI (i + 2))) h (pc' := 375) rfl dL_law_374 (nI_add i 2) ?_
  refine x_sld hL (pc' := 376) rfl (by omega) dL_law_375 ?_
  refine x_vI h (pc' := 379) rfl [.int (xs (i + 1)), .int (xs (i + 2))] (k2_heldNext l D cI cZ cS A fk0 fv0 fr0 fd0 n0 fk3 fv3 fr3 fd3 n3 fk1 fv1 fr1 fd1 n1 fk2 fv2 fr2 fd2 n2 ft fu iu dn (pe && so) (pe && fl) ct ev fe l0 l3 l1 l2 t1 t2 q3 q4 (xs (i + 1)) (xs (i + 2))) dL_law_376 2 (gd_L mlL_61 im2_heldNext se2_heldNext ini2 cd2_heldNext) rfl ⟨rfl, rfl⟩ hd2_heldNext ⟨by decide, by decide⟩ ⟨by decide, by decide⟩ 0 rfl rfl rfl [0, 1, 2, 3, 4, 5, 6, 7, 8, 9, 10, 11, 12, 13, 14, 15, 16, 17, 18, 19, 20, 21, 22, 23, 24] nd25 (mapL rfl) rfl (Nat.le_of_ble_eq_true rfl) rfl (fun r1 u1 p1 e1 => ?_)
  have hu1 : u1.length = 25 := by simpa using congrArg List.length e1
  refine x_w (w' := u1 ++ wR o a1 a2 a3 a4 a5 cI cZ gc gk gv gi gh (nI made) (bi dn) (bi pe) (bi so) (bi fl) ct ev fe) (putL rfl hu1) ?_
  refine x_aload_n h (pc' := 380) rfl dL_law_379 1 rfl rfl ?_
  refine x_aload_n h (pc' := 381) rfl dL_law_380 3 rfl rfl ?_
  refine x_iload_n h (pc' := 382) rfl dL_law_381 0 rfl rfl ?_
  refine x_iconst (v := (nI 1)) h (pc' := 383) rfl dL_law_382 (by decide) ?_
  refine x_iadd (z := (nI (i + 1))) h (pc' := 384) rfl dL_law_383 (nI_add i 1) ?_
  refine x_sld hL (pc' := 385) rfl (by omega) dL_law_384 ?_
  refine x_aload_n h (pc' := 386) rfl dL_law_385 3 rfl rfl ?_
  refine x_iload_n h (pc' := 387) rfl dL_law_386 0 rfl rfl ?_
  refine x_iconst (v := (nI 2)) h (pc' := 388) rfl dL_law_387 (by decide) ?_
  refine x_iadd (z := (nI (i + 2))) h (pc' := 389) rfl dL_law_388 (nI_add i 2) ?_
  refine x_sld hL (pc' := 390) rfl (by omega) dL_law_389 ?_
  refine x_vI h (pc' := 393) rfl [.int (xs (i + 1)), .int (xs (i + 2))] (k3_heldNext l D cI cZ cS o a1 a2 a3 a4 a5 gc gk gv gi gh (nI made) ct ev fe dn pe so fl n1 n2 (by omega) (by omega) g1 g2 t1 t2 q1 q2 (xs (i + 1)) (xs (i + 2))) dL_law_390 2 (gd_L mlL_64 im3_heldNext se3_heldNext ini3 cd3_heldNext) rfl ⟨rfl, rfl⟩ hd3_heldNext ⟨by decide, by decide⟩ ⟨by decide, by decide⟩ 25 rfl rfl ((atR hu1).trans rfl) [25, 26, 27, 28, 29, 30] nd6 (mapR hu1 rfl) rfl (Nat.le_of_ble_eq_true rfl) rfl (fun r2 u2 p2 e2 => ?_)
  have hu2 : u2.length = 6 := by simpa using congrArg List.length e2
  refine x_w (w' := u1 ++ u2) (putR hu1 rfl hu2) ?_
  obtain ⟨er, hT2⟩ := t_heldNext hI p1 p2
  refine x_icmp_eq (tg := 476) h (pc' := 396) rfl dL_law_393 (by decide) Iff.rfl (fun c393 => ?_) (fun c393 => ?_)
  · skip
    exact K u1 u2 hT2
  · skip
    exact absurd er c393
set_option maxRecDepth 100000 in
set_option maxHeartbeats 4000000 in
theorem law_crash {X : XT} {l : Launch} {D : va_G} {cI cZ cS : ClassId} {b L : Nat} {xs : Nat → Int32} (hL : LX X l D cI cZ cS b L xs) {c i a o : Nat} {w1 w2 : va_W} (hT : TI c a o cI cZ cS w1 w2) (hi : i + 3 ≤ L) (hc : c ≤ 511) (K : ∀ u1 u2 : va_W, TI (c + 1) a o cI cZ cS u1 u2 → WX X 31 1067 476 [(3, .int (nI i)), (2, .ref o), (1, .ref a), (0, .ref b)] (u1 ++ u2) []) : WX X 31 1067 398 [(3, .int (nI i)), (2, .ref o), (1, .ref a), (0, .ref b)] (w1 ++ w2) [] := by
  obtain ⟨A, fk0, fv0, fr0, fd0, n0, fk3, fv3, fr3, fd3, n3, fk1, fv1, fr1, fd1, n1, fk2, fv2, fr2, fd2, n2, ft, fu, iu, a1, a2, a3, a4, a5, gc, gk, gv, gi, gh, made, dn, pe, so, fl, t1, t2, ct, ev, fe, d0, d1, d2, d3, i0, i1, i2, i3, rfl, rfl, rfl, hI⟩ := hT
  obtain ⟨⟨⟨l0, l3, l1, l2⟩, ⟨g0, g3, g1, g2⟩, q1, q2, q3, q4⟩, ⟨hpe, hct, hmd⟩, ⟨S0, K0, N0⟩, T1, T2, T12, TP⟩ := id hI
  have h := hL.1
  have hL5 := hL.2.2.2.2
  refine x_aload_n h (pc' := 399) rfl dL_law_398 2 rfl rfl ?_
  refine x_vI h (pc' := 402) rfl [] (k2_crash l D cI cZ cS A fk0 fv0 fr0 fd0 n0 fk3 fv3 fr3 fd3 n3 fk1 fv1 fr1 fd1 n1 fk2 fv2 fr2 fd2 n2 ft fu iu dn (pe && so) (pe && fl) ct ev fe l0 l3 l1 l2) dL_law_399 0 (gd_L mlL_65 im2_crash se2_crash ini2 cd2_crash) rfl ⟨rfl, rfl⟩ hd2_crash ⟨by decide, by decide⟩ ⟨by decide, by decide⟩ 0 rfl rfl rfl [0, 1, 2, 3, 4, 5, 6, 7, 8, 9, 10, 11, 12, 13, 14, 15, 16, 17, 18, 19, 20, 21, 22, 23, 24] nd25 (mapL rfl) rfl (Nat.le_of_ble_eq_true rfl) rfl (fun r1 u1 p1 e1 => ?_)
  have hu1 : u1.length = 25 := by simpa using congrArg List.length e1
  refine x_w (w' := u1 ++ wR o a1 a2 a3 a4 a5 cI cZ gc gk gv gi gh (nI made) (bi dn) (bi pe) (bi so) (bi fl) ct ev fe) (putL rfl hu1) ?_
  refine x_aload_n h (pc' := 403) rfl dL_law_402 1 rfl rfl ?_
  refine x_vI h (pc' := 406) rfl [] (k3_crash l D cI cZ cS o a1 a2 a3 a4 a5 gc gk gv gi gh (nI made) ct ev fe dn pe so fl) dL_law_403 0 (gd_L mlL_69 im3_crash se3_crash ini3 cd3_crash) rfl ⟨rfl, rfl⟩ hd3_crash ⟨by decide, by decide⟩ ⟨by decide, by decide⟩ 25 rfl rfl ((atR hu1).trans rfl) [25, 26, 27, 28, 29, 30] nd6 (mapR hu1 rfl) rfl (Nat.le_of_ble_eq_true rfl) rfl (fun r2 u2 p2 e2 => ?_)
  have hu2 : u2.length = 6 := by simpa using congrArg List.length e2
  refine x_w (w' := u1 ++ u2) (putR hu1 rfl hu2) ?_
  obtain ⟨er, hT2⟩ := t_crash hI p1 p2
  refine x_icmp_eq (tg := 476) h (pc' := 409) rfl dL_law_406 (by decide) Iff.rfl (fun c406 => ?_) (fun c406 => ?_)
  · skip
    exact K u1 u2 hT2
  · skip
    exact absurd er c406
set_option maxRecDepth 100000 in
set_option maxHeartbeats 4000000 in
theorem law_restart {X : XT} {l : Launch} {D : va_G} {cI cZ cS : ClassId} {b L : Nat} {xs : Nat → Int32} (hL : LX X l D cI cZ cS b L xs) {c i a o : Nat} {w1 w2 : va_W} (hT : TI c a o cI cZ cS w1 w2) (hi : i + 3 ≤ L) (hc : c ≤ 511) (K : ∀ u1 u2 : va_W, TI (c + 1) a o cI cZ cS u1 u2 → WX X 31 1067 476 [(3, .int (nI i)), (2, .ref o), (1, .ref a), (0, .ref b)] (u1 ++ u2) []) : WX X 31 1067 411 [(3, .int (nI i)), (2, .ref o), (1, .ref a), (0, .ref b)] (w1 ++ w2) [] := by
  obtain ⟨A, fk0, fv0, fr0, fd0, n0, fk3, fv3, fr3, fd3, n3, fk1, fv1, fr1, fd1, n1, fk2, fv2, fr2, fd2, n2, ft, fu, iu, a1, a2, a3, a4, a5, gc, gk, gv, gi, gh, made, dn, pe, so, fl, t1, t2, ct, ev, fe, d0, d1, d2, d3, i0, i1, i2, i3, rfl, rfl, rfl, hI⟩ := hT
  obtain ⟨⟨⟨l0, l3, l1, l2⟩, ⟨g0, g3, g1, g2⟩, q1, q2, q3, q4⟩, ⟨hpe, hct, hmd⟩, ⟨S0, K0, N0⟩, T1, T2, T12, TP⟩ := id hI
  have h := hL.1
  have hL5 := hL.2.2.2.2
  refine x_aload_n h (pc' := 412) rfl dL_law_411 2 rfl rfl ?_
  refine x_aload_n h (pc' := 413) rfl dL_law_412 3 rfl rfl ?_
  refine x_iload_n h (pc' := 414) rfl dL_law_413 0 rfl rfl ?_
  refine x_iconst (v := (nI 1)) h (pc' := 415) rfl dL_law_414 (by decide) ?_
  refine x_iadd (z := (nI (i + 1))) h (pc' := 416) rfl dL_law_415 (nI_add i 1) ?_
  refine x_sld hL (pc' := 417) rfl (by omega) dL_law_416 ?_
  refine x_if_eq (tg := 424) h (pc' := 420) rfl dL_law_417 (by decide) Iff.rfl (fun c417 => ?_) (fun c417 => ?_)
  · skip
    refine x_iconst (v := (nI 0)) h (pc' := 425) rfl dL_law_424 (by decide) ?_
    refine x_top (y := (bi (!(decide (xs (i + 1) = 0))))) (bi0 (by rw [decide_eq_true c417]; rfl)) ?_
    refine x_vI h (pc' := 428) rfl [.int (bi (!(decide (xs (i + 1) = 0))))] (k2_restart l D cI cZ cS A fk0 fv0 fr0 fd0 n0 fk3 fv3 fr3 fd3 n3 fk1 fv1 fr1 fd1 n1 fk2 fv2 fr2 fd2 n2 ft fu iu dn (pe && so) (pe && fl) ct ev fe l0 l3 l1 l2 (!(decide (xs (i + 1) = 0)))) dL_law_425 1 (gd_L mlL_70 im2_restart se2_restart ini2 cd2_restart) rfl ⟨rfl, rfl⟩ hd2_restart ⟨by decide, by decide⟩ ⟨by decide, by decide⟩ 0 rfl rfl rfl [0, 1, 2, 3, 4, 5, 6, 7, 8, 9, 10, 11, 12, 13, 14, 15, 16, 17, 18, 19, 20, 21, 22, 23, 24] nd25 (mapL rfl) rfl (Nat.le_of_ble_eq_true rfl) rfl (fun r1 u1 p1 e1 => ?_)
    have hu1 : u1.length = 25 := by simpa using congrArg List.length e1
    refine x_w (w' := u1 ++ wR o a1 a2 a3 a4 a5 cI cZ gc gk gv gi gh (nI made) (bi dn) (bi pe) (bi so) (bi fl) ct ev fe) (putL rfl hu1) ?_
    refine x_aload_n h (pc' := 429) rfl dL_law_428 1 rfl rfl ?_
    refine x_aload_n h (pc' := 430) rfl dL_law_429 3 rfl rfl ?_
    refine x_iload_n h (pc' := 431) rfl dL_law_430 0 rfl rfl ?_
    refine x_iconst (v := (nI 1)) h (pc' := 432) rfl dL_law_431 (by decide) ?_
    refine x_iadd (z := (nI (i + 1))) h (pc' := 433) rfl dL_law_432 (nI_add i 1) ?_
    refine x_sld hL (pc' := 434) rfl (by omega) dL_law_433 ?_
    refine x_if_eq (tg := 441) h (pc' := 437) rfl dL_law_434 (by decide) Iff.rfl (fun c434 => ?_) (fun c434 => ?_)
    · skip
      refine x_iconst (v := (nI 0)) h (pc' := 442) rfl dL_law_441 (by decide) ?_
      refine x_top (y := (bi (!(decide (xs (i + 1) = 0))))) (bi0 (by rw [decide_eq_true c434]; rfl)) ?_
      refine x_vI h (pc' := 445) rfl [.int (bi (!(decide (xs (i + 1) = 0))))] (k3_restart l D cI cZ cS o a1 a2 a3 a4 a5 gc gk gv gi gh (nI made) ct ev fe dn pe so fl n0 (by omega) g0 n3 (by omega) g3 (!(decide (xs (i + 1) = 0)))) dL_law_442 1 (gd_L mlL_74 im3_restart se3_restart ini3 cd3_restart) rfl ⟨rfl, rfl⟩ hd3_restart ⟨by decide, by decide⟩ ⟨by decide, by decide⟩ 25 rfl rfl ((atR hu1).trans rfl) [25, 26, 27, 28, 29, 30] nd6 (mapR hu1 rfl) rfl (Nat.le_of_ble_eq_true rfl) rfl (fun r2 u2 p2 e2 => ?_)
      have hu2 : u2.length = 6 := by simpa using congrArg List.length e2
      refine x_w (w' := u1 ++ u2) (putR hu1 rfl hu2) ?_
      obtain ⟨er, hT2⟩ := t_restart hI p1 p2
      refine x_icmp_eq (tg := 476) h (pc' := 448) rfl dL_law_445 (by decide) Iff.rfl (fun c445 => ?_) (fun c445 => ?_)
      · skip
        exact K u1 u2 hT2
      · skip
        exact absurd er c445
    · skip
      refine x_iconst (v := (nI 1)) h (pc' := 438) rfl dL_law_437 (by decide) ?_
      refine x_goto (pc' := 442) h dL_law_438 (by decide) ?_
      refine x_top (y := (bi (!(decide (xs (i + 1) = 0))))) (bi1 (by rw [decide_eq_false c434]; rfl)) ?_
      refine x_vI h (pc' := 445) rfl [.int (bi (!(decide (xs (i + 1) = 0))))] (k3_restart l D cI cZ cS o a1 a2 a3 a4 a5 gc gk gv gi gh (nI made) ct ev fe dn pe so fl n0 (by omega) g0 n3 (by omega) g3 (!(decide (xs (i + 1) = 0)))) dL_law_442 1 (gd_L mlL_74 im3_restart se3_restart ini3 cd3_restart) rfl ⟨rfl, rfl⟩ hd3_restart ⟨by decide, by decide⟩ ⟨by decide, by decide⟩ 25 rfl rfl ((atR hu1).trans rfl) [25, 26, 27, 28, 29, 30] nd6 (mapR hu1 rfl) rfl (Nat.le_of_ble_eq_true rfl) rfl (fun r2 u2 p2 e2 => ?_)
      have hu2 : u2.length = 6 := by simpa using congrArg List.length e2
      refine x_w (w' := u1 ++ u2) (putR hu1 rfl hu2) ?_
      obtain ⟨er, hT2⟩ := t_restart hI p1 p2
      refine x_icmp_eq (tg := 476) h (pc' := 448) rfl dL_law_445 (by decide) Iff.rfl (fun c445 => ?_) (fun c445 => ?_)
      · skip
        exact K u1 u2 hT2
      · skip
        exact absurd er c445
  · skip
    refine x_iconst (v := (nI 1)) h (pc' := 421) rfl dL_law_420 (by decide) ?_
    refine x_goto (pc' := 425) h dL_law_421 (by decide) ?_
    refine x_top (y := (bi (!(decide (xs (i + 1) = 0))))) (bi1 (by rw [decide_eq_false c417]; rfl)) ?_
    refine x_vI h (pc' := 428) rfl [.int (bi (!(decide (xs (i + 1) = 0))))] (k2_restart l D cI cZ cS A fk0 fv0 fr0 fd0 n0 fk3 fv3 fr3 fd3 n3 fk1 fv1 fr1 fd1 n1 fk2 fv2 fr2 fd2 n2 ft fu iu dn (pe && so) (pe && fl) ct ev fe l0 l3 l1 l2 (!(decide (xs (i + 1) = 0)))) dL_law_425 1 (gd_L mlL_70 im2_restart se2_restart ini2 cd2_restart) rfl ⟨rfl, rfl⟩ hd2_restart ⟨by decide, by decide⟩ ⟨by decide, by decide⟩ 0 rfl rfl rfl [0, 1, 2, 3, 4, 5, 6, 7, 8, 9, 10, 11, 12, 13, 14, 15, 16, 17, 18, 19, 20, 21, 22, 23, 24] nd25 (mapL rfl) rfl (Nat.le_of_ble_eq_true rfl) rfl (fun r1 u1 p1 e1 => ?_)
    have hu1 : u1.length = 25 := by simpa using congrArg List.length e1
    refine x_w (w' := u1 ++ wR o a1 a2 a3 a4 a5 cI cZ gc gk gv gi gh (nI made) (bi dn) (bi pe) (bi so) (bi fl) ct ev fe) (putL rfl hu1) ?_
    refine x_aload_n h (pc' := 429) rfl dL_law_428 1 rfl rfl ?_
    refine x_aload_n h (pc' := 430) rfl dL_law_429 3 rfl rfl ?_
    refine x_iload_n h (pc' := 431) rfl dL_law_430 0 rfl rfl ?_
    refine x_iconst (v := (nI 1)) h (pc' := 432) rfl dL_law_431 (by decide) ?_
    refine x_iadd (z := (nI (i + 1))) h (pc' := 433) rfl dL_law_432 (nI_add i 1) ?_
    refine x_sld hL (pc' := 434) rfl (by omega) dL_law_433 ?_
    refine x_if_eq (tg := 441) h (pc' := 437) rfl dL_law_434 (by decide) Iff.rfl (fun c434 => ?_) (fun c434 => ?_)
    · skip
      refine x_iconst (v := (nI 0)) h (pc' := 442) rfl dL_law_441 (by decide) ?_
      refine x_top (y := (bi (!(decide (xs (i + 1) = 0))))) (bi0 (by rw [decide_eq_true c434]; rfl)) ?_
      refine x_vI h (pc' := 445) rfl [.int (bi (!(decide (xs (i + 1) = 0))))] (k3_restart l D cI cZ cS o a1 a2 a3 a4 a5 gc gk gv gi gh (nI made) ct ev fe dn pe so fl n0 (by omega) g0 n3 (by omega) g3 (!(decide (xs (i + 1) = 0)))) dL_law_442 1 (gd_L mlL_74 im3_restart se3_restart ini3 cd3_restart) rfl ⟨rfl, rfl⟩ hd3_restart ⟨by decide, by decide⟩ ⟨by decide, by decide⟩ 25 rfl rfl ((atR hu1).trans rfl) [25, 26, 27, 28, 29, 30] nd6 (mapR hu1 rfl) rfl (Nat.le_of_ble_eq_true rfl) rfl (fun r2 u2 p2 e2 => ?_)
      have hu2 : u2.length = 6 := by simpa using congrArg List.length e2
      refine x_w (w' := u1 ++ u2) (putR hu1 rfl hu2) ?_
      obtain ⟨er, hT2⟩ := t_restart hI p1 p2
      refine x_icmp_eq (tg := 476) h (pc' := 448) rfl dL_law_445 (by decide) Iff.rfl (fun c445 => ?_) (fun c445 => ?_)
      · skip
        exact K u1 u2 hT2
      · skip
        exact absurd er c445
    · skip
      refine x_iconst (v := (nI 1)) h (pc' := 438) rfl dL_law_437 (by decide) ?_
      refine x_goto (pc' := 442) h dL_law_438 (by decide) ?_
      refine x_top (y := (bi (!(decide (xs (i + 1) = 0))))) (bi1 (by rw [decide_eq_false c434]; rfl)) ?_
      refine x_vI h (pc' := 445) rfl [.int (bi (!(decide (xs (i + 1) = 0))))] (k3_restart l D cI cZ cS o a1 a2 a3 a4 a5 gc gk gv gi gh (nI made) ct ev fe dn pe so fl n0 (by omega) g0 n3 (by omega) g3 (!(decide (xs (i + 1) = 0)))) dL_law_442 1 (gd_L mlL_74 im3_restart se3_restart ini3 cd3_restart) rfl ⟨rfl, rfl⟩ hd3_restart ⟨by decide, by decide⟩ ⟨by decide, by decide⟩ 25 rfl rfl ((atR hu1).trans rfl) [25, 26, 27, 28, 29, 30] nd6 (mapR hu1 rfl) rfl (Nat.le_of_ble_eq_true rfl) rfl (fun r2 u2 p2 e2 => ?_)
      have hu2 : u2.length = 6 := by simpa using congrArg List.length e2
      refine x_w (w' := u1 ++ u2) (putR hu1 rfl hu2) ?_
      obtain ⟨er, hT2⟩ := t_restart hI p1 p2
      refine x_icmp_eq (tg := 476) h (pc' := 448) rfl dL_law_445 (by decide) Iff.rfl (fun c445 => ?_) (fun c445 => ?_)
      · skip
        exact K u1 u2 hT2
      · skip
        exact absurd er c445
set_option maxRecDepth 100000 in
set_option maxHeartbeats 4000000 in
theorem law_events {X : XT} {l : Launch} {D : va_G} {cI cZ cS : ClassId} {b L : Nat} {xs : Nat → Int32} (hL : LX X l D cI cZ cS b L xs) {c i a o : Nat} {w1 w2 : va_W} (hT : TI c a o cI cZ cS w1 w2) (hi : i + 3 ≤ L) (hc : c ≤ 511) (K : ∀ u1 u2 : va_W, TI (c + 1) a o cI cZ cS u1 u2 → WX X 31 1067 476 [(3, .int (nI i)), (2, .ref o), (1, .ref a), (0, .ref b)] (u1 ++ u2) []) : WX X 31 1067 450 [(3, .int (nI i)), (2, .ref o), (1, .ref a), (0, .ref b)] (w1 ++ w2) [] := by
  obtain ⟨A, fk0, fv0, fr0, fd0, n0, fk3, fv3, fr3, fd3, n3, fk1, fv1, fr1, fd1, n1, fk2, fv2, fr2, fd2, n2, ft, fu, iu, a1, a2, a3, a4, a5, gc, gk, gv, gi, gh, made, dn, pe, so, fl, t1, t2, ct, ev, fe, d0, d1, d2, d3, i0, i1, i2, i3, rfl, rfl, rfl, hI⟩ := hT
  obtain ⟨⟨⟨l0, l3, l1, l2⟩, ⟨g0, g3, g1, g2⟩, q1, q2, q3, q4⟩, ⟨hpe, hct, hmd⟩, ⟨S0, K0, N0⟩, T1, T2, T12, TP⟩ := id hI
  have h := hL.1
  have hL5 := hL.2.2.2.2
  refine x_aload_n h (pc' := 451) rfl dL_law_450 2 rfl rfl ?_
  refine x_vI h (pc' := 454) rfl [] (k2_events l D cI cZ cS A fk0 fv0 fr0 fd0 n0 fk3 fv3 fr3 fd3 n3 fk1 fv1 fr1 fd1 n1 fk2 fv2 fr2 fd2 n2 ft fu iu dn (pe && so) (pe && fl) ct ev fe l0 l3 l1 l2) dL_law_451 0 (gd_L mlL_75 im2_events se2_events ini2 cd2_events) rfl ⟨rfl, rfl⟩ hd2_events ⟨by decide, by decide⟩ ⟨by decide, by decide⟩ 0 rfl rfl rfl [0, 1, 2, 3, 4, 5, 6, 7, 8, 9, 10, 11, 12, 13, 14, 15, 16, 17, 18, 19, 20, 21, 22, 23, 24] nd25 (mapL rfl) rfl (Nat.le_of_ble_eq_true rfl) rfl (fun r1 u1 p1 e1 => ?_)
  have hu1 : u1.length = 25 := by simpa using congrArg List.length e1
  refine x_w (w' := u1 ++ wR o a1 a2 a3 a4 a5 cI cZ gc gk gv gi gh (nI made) (bi dn) (bi pe) (bi so) (bi fl) ct ev fe) (putL rfl hu1) ?_
  refine x_aload_n h (pc' := 455) rfl dL_law_454 1 rfl rfl ?_
  refine x_vI h (pc' := 458) rfl [] (k3_events l D cI cZ cS o a1 a2 a3 a4 a5 gc gk gv gi gh (nI made) ct ev fe dn pe so fl) dL_law_455 0 (gd_L mlL_78 im3_events se3_events ini3 cd3_events) rfl ⟨rfl, rfl⟩ hd3_events ⟨by decide, by decide⟩ ⟨by decide, by decide⟩ 25 rfl rfl ((atR hu1).trans rfl) [25, 26, 27, 28, 29, 30] nd6 (mapR hu1 rfl) rfl (Nat.le_of_ble_eq_true rfl) rfl (fun r2 u2 p2 e2 => ?_)
  have hu2 : u2.length = 6 := by simpa using congrArg List.length e2
  refine x_w (w' := u1 ++ u2) (putR hu1 rfl hu2) ?_
  obtain ⟨er, hT2⟩ := t_events hI p1 p2
  refine x_icmp_eq (tg := 476) h (pc' := 461) rfl dL_law_458 (by decide) Iff.rfl (fun c458 => ?_) (fun c458 => ?_)
  · skip
    exact K u1 u2 hT2
  · skip
    exact absurd er c458
set_option maxRecDepth 100000 in
set_option maxHeartbeats 4000000 in
theorem law_fences {X : XT} {l : Launch} {D : va_G} {cI cZ cS : ClassId} {b L : Nat} {xs : Nat → Int32} (hL : LX X l D cI cZ cS b L xs) {c i a o : Nat} {w1 w2 : va_W} (hT : TI c a o cI cZ cS w1 w2) (hi : i + 3 ≤ L) (hc : c ≤ 511) (K : ∀ u1 u2 : va_W, TI (c + 1) a o cI cZ cS u1 u2 → WX X 31 1067 476 [(3, .int (nI i)), (2, .ref o), (1, .ref a), (0, .ref b)] (u1 ++ u2) []) : WX X 31 1067 463 [(3, .int (nI i)), (2, .ref o), (1, .ref a), (0, .ref b)] (w1 ++ w2) [] := by
  obtain ⟨A, fk0, fv0, fr0, fd0, n0, fk3, fv3, fr3, fd3, n3, fk1, fv1, fr1, fd1, n1, fk2, fv2, fr2, fd2, n2, ft, fu, iu, a1, a2, a3, a4, a5, gc, gk, gv, gi, gh, made, dn, pe, so, fl, t1, t2, ct, ev, fe, d0, d1, d2, d3, i0, i1, i2, i3, rfl, rfl, rfl, hI⟩ := hT
  obtain ⟨⟨⟨l0, l3, l1, l2⟩, ⟨g0, g3, g1, g2⟩, q1, q2, q3, q4⟩, ⟨hpe, hct, hmd⟩, ⟨S0, K0, N0⟩, T1, T2, T12, TP⟩ := id hI
  have h := hL.1
  have hL5 := hL.2.2.2.2
  refine x_aload_n h (pc' := 464) rfl dL_law_463 2 rfl rfl ?_
  refine x_vI h (pc' := 467) rfl [] (k2_fences l D cI cZ cS A fk0 fv0 fr0 fd0 n0 fk3 fv3 fr3 fd3 n3 fk1 fv1 fr1 fd1 n1 fk2 fv2 fr2 fd2 n2 ft fu iu dn (pe && so) (pe && fl) ct ev fe l0 l3 l1 l2) dL_law_464 0 (gd_L mlL_79 im2_fences se2_fences ini2 cd2_fences) rfl ⟨rfl, rfl⟩ hd2_fences ⟨by decide, by decide⟩ ⟨by decide, by decide⟩ 0 rfl rfl rfl [0, 1, 2, 3, 4, 5, 6, 7, 8, 9, 10, 11, 12, 13, 14, 15, 16, 17, 18, 19, 20, 21, 22, 23, 24] nd25 (mapL rfl) rfl (Nat.le_of_ble_eq_true rfl) rfl (fun r1 u1 p1 e1 => ?_)
  have hu1 : u1.length = 25 := by simpa using congrArg List.length e1
  refine x_w (w' := u1 ++ wR o a1 a2 a3 a4 a5 cI cZ gc gk gv gi gh (nI made) (bi dn) (bi pe) (bi so) (bi fl) ct ev fe) (putL rfl hu1) ?_
  refine x_aload_n h (pc' := 468) rfl dL_law_467 1 rfl rfl ?_
  refine x_vI h (pc' := 471) rfl [] (k3_fences l D cI cZ cS o a1 a2 a3 a4 a5 gc gk gv gi gh (nI made) ct ev fe dn pe so fl) dL_law_468 0 (gd_L mlL_82 im3_fences se3_fences ini3 cd3_fences) rfl ⟨rfl, rfl⟩ hd3_fences ⟨by decide, by decide⟩ ⟨by decide, by decide⟩ 25 rfl rfl ((atR hu1).trans rfl) [25, 26, 27, 28, 29, 30] nd6 (mapR hu1 rfl) rfl (Nat.le_of_ble_eq_true rfl) rfl (fun r2 u2 p2 e2 => ?_)
  have hu2 : u2.length = 6 := by simpa using congrArg List.length e2
  refine x_w (w' := u1 ++ u2) (putR hu1 rfl hu2) ?_
  obtain ⟨er, hT2⟩ := t_fences hI p1 p2
  refine x_icmp_eq (tg := 476) h (pc' := 474) rfl dL_law_471 (by decide) Iff.rfl (fun c471 => ?_) (fun c471 => ?_)
  · skip
    exact K u1 u2 hT2
  · skip
    exact absurd er c471
