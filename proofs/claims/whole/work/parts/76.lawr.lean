theorem putB_mid : ∀ (w1 pre suf tl : va_W), suf.length = w1.length → putB (pre ++ (suf ++ tl)) (List.range' pre.length w1.length) w1 = pre ++ (w1 ++ tl)
  | [], pre, suf, tl, h => by
    have : suf = [] := List.length_eq_zero_iff.mp h
    subst this; simp [putB, List.range']
  | q :: w1, pre, [], tl, h => by simp at h
  | q :: w1, pre, s0 :: suf, tl, h => by
    have e1 : List.range' pre.length (q :: w1).length = pre.length :: List.range' (pre ++ [q]).length w1.length := by
      show List.range' pre.length (w1.length + 1) = _
      rw [List.range'_succ, List.length_append]; rfl
    rw [e1]
    show putB ((pre ++ (s0 :: suf ++ tl)).set pre.length q) _ w1 = _
    have e2 : (pre ++ (s0 :: suf ++ tl)).set pre.length q = (pre ++ [q]) ++ (suf ++ tl) := by simp
    rw [e2, putB_mid w1 (pre ++ [q]) suf tl (by simpa using h)]
    simp
theorem putL {u v w1 : va_W} (hu : u.length = 25) (h : w1.length = 25) : putB (u ++ v) [0, 1, 2, 3, 4, 5, 6, 7, 8, 9, 10, 11, 12, 13, 14, 15, 16, 17, 18, 19, 20, 21, 22, 23, 24] w1 = w1 ++ v := by
  have := putB_mid w1 [] u v (by rw [hu, h])
  rw [h] at this
  exact this
theorem putR {u v w1 : va_W} (hu : u.length = 25) (hv : v.length = 6) (h : w1.length = 6) : putB (u ++ v) [25, 26, 27, 28, 29, 30] w1 = u ++ w1 := by
  have := putB_mid w1 u v [] (by rw [hv, h])
  rw [h, hu, List.append_nil, List.append_nil] at this
  exact this
theorem mapL {u v : va_W} (hu : u.length = 25) : [0, 1, 2, 3, 4, 5, 6, 7, 8, 9, 10, 11, 12, 13, 14, 15, 16, 17, 18, 19, 20, 21, 22, 23, 24].map (fun i => (u ++ v)[i]?) = u.map some := by
  rw [← map25 hu]
  apply List.map_congr_left
  intro i hi
  have : i < 25 := by
    revert i; decide
  rw [List.getElem?_append_left (by omega)]
theorem mapR {u v : va_W} (hu : u.length = 25) (hv : v.length = 6) : [25, 26, 27, 28, 29, 30].map (fun i => (u ++ v)[i]?) = v.map some := by
  have h := mapAll v
  rw [hv] at h
  rw [← h]
  show [25, 26, 27, 28, 29, 30].map _ = [0, 1, 2, 3, 4, 5].map _
  simp only [List.map_cons, List.map_nil, List.getElem?_append, hu]
  rfl
theorem atR {u v : va_W} (hu : u.length = 25) : (u ++ v)[25]? = v[0]? := by rw [List.getElem?_append_right (by omega), hu]
theorem nd6 : va_nd [25, 26, 27, 28, 29, 30] = true := by decide +kernel
theorem gd_L {own C : String} {index maxL : Nat} {y : MethodName} {bytes : ByteArray} {ret : Option FieldType} (h1 : Cond.methodLink own index y ∈ BG) (h2 : Cond.instanceMethod y ∈ BG) (h3 : Cond.selects C y y ∈ BG) (h4 : Cond.initialized C ∈ BG) (h5 : Cond.code y bytes maxL ret ∈ BG) : GoodIn lw_tbl (wsV own index C y (Cond.code y bytes maxL ret :: BG)) := by
  intro w hw
  have : w ∈ BG := by
    rcases List.mem_append.mp hw with h | h
    · simp only [List.mem_cons, List.not_mem_nil, or_false] at h
      rcases h with rfl | rfl | rfl | rfl <;> assumption
    · rcases List.mem_cons.mp h with rfl | h <;> assumption
  exact ⟨(List.mem_filter.mp this).1, good_of_word (List.mem_filter.mp this).2⟩
theorem gd_LI {y : MethodName} {bytes : ByteArray} {maxL : Nat} {ret : Option FieldType} (h5 : Cond.code y bytes maxL ret ∈ BG) : GoodIn lw_tbl (Cond.code y bytes maxL ret :: BG) := by
  intro w hw
  have : w ∈ BG := by rcases List.mem_cons.mp hw with rfl | h <;> assumption
  exact ⟨(List.mem_filter.mp this).1, good_of_word (List.mem_filter.mp this).2⟩
theorem bgl {w : Cond} (h : w ∈ BG) : w ∈ lw_tbl := (List.mem_filter.mp h).1
/-- the law's own standing -/
def LX (X : XT) (l : Launch) (D : va_G) (cI cZ cS : ClassId) (b L : Nat) (xs : Nat → Int32) : Prop := OK X l D code lw_tbl R_law (TS3 cI cZ cS) room_1 4 ∧ va_X b L xs (x_s X) (x_s X).heap ∧ b < (x_s X).heap.size ∧ ¬ x_A X b ∧ L ≤ 1536
section XL
variable {X : XT} {l : Launch} {D : va_G} {cI cZ cS : ClassId} {b L : Nat} {xs : Nat → Int32} {k n pc pc' : Nat} {lv : List (Nat × Value)} {w : va_W} {st : List Value}
theorem x_sld (h : LX X l D cI cZ cS b L xs) (e : pc + 1 = pc') {i : Nat} (hi : i < L) (d : decode code pc = .ok (.iaload, 1)) (kk : WX X k n pc' lv w (.int (xs i) :: st)) : WX X k n pc lv w (.int (nI i) :: .ref b :: st) := by
  subst e; intro H locs ls hP hD hS hl
  obtain ⟨ho, hX, hbl, hbA, hL⟩ := h
  refine va_sld ho.1 ho.2.1 hX hbl hbA hS (vp_in_nI hi (by omega)) d ?_
  rw [nI_clamp (by omega)]; exact kk H locs ls hP hD hS hl
theorem x_slen (h : LX X l D cI cZ cS b L xs) (e : pc + 1 = pc') (d : decode code pc = .ok (.arraylength, 1)) (kk : WX X k n pc' lv w (.int (nI L) :: st)) : WX X k n pc lv w (.ref b :: st) := by
  subst e; intro H locs ls hP hD hS hl
  obtain ⟨ho, hX, hbl, hbA, hL⟩ := h
  exact va_slen ho.1 ho.2.1 hX hbl hbA hS d (kk H locs ls hP hD hS hl)
theorem x_table (h : LX X l D cI cZ cS b L xs) {dflt off : Int} {offs : Array Int} {len j tg : Nat} (d : decode code pc = .ok (.tableswitch dflt 0 15 offs, len)) (hj : j < 16) (ho : offs[j]? = some off) (ht : (pc : Int) + off = (tg : Int)) (kk : WX X k n tg lv w st) : WX X k n pc lv w (.int (nI j) :: st) := by
  intro H locs ls hP hD hS hl
  have e : (nI j).toInt = (j : Int) := nI_toInt (by omega)
  refine lv_tableIn h.1.1 h.1.2.1 d (by rw [e]; omega) (by rw [e]; omega) ?_ ht (kk H locs ls hP hD hS hl)
  rw [e]
  have : ((j : Int) - 0).toNat = j := by omega
  rw [this]; exact ho
theorem lt_sub3 {L i : Nat} (hL : L < 2 ^ 30) (hi : i < 2 ^ 30) : nI L - nI 3 < nI i ↔ L < i + 3 := by
  rw [Int32.lt_iff_toInt_lt, pk_sub_toInt hL (by omega), nI_toInt (by omega)]
  omega
end XL
theorem TI_len {c a o : Nat} {cI cZ cS : ClassId} {w1 w2 : va_W} (h : TI c a o cI cZ cS w1 w2) : w1.length = 25 ∧ w2.length = 6 := by
  obtain ⟨_, _, _, _, _, _, _, _, _, _, _, _, _, _, _, _, _, _, _, _, _, _, _, _, _, _, _, _, _, _, _, _, _, _, _, _, _, _, _, _, _, _, _, _, _, _, _, _, _, _, _, _, -, rfl, rfl, -⟩ := h
  exact ⟨rfl, rfl⟩
theorem mlL_9 : Cond.methodLink R_law 9 y2_init ∈ BG := bg_t 8 (by decide +kernel) (by decide +kernel)
theorem mlL_13 : Cond.methodLink R_law 13 y2_cut ∈ BG := bg_t 91 (by decide +kernel) (by decide +kernel)
theorem mlL_18 : Cond.methodLink R_law 18 y2_put ∈ BG := bg_t 95 (by decide +kernel) (by decide +kernel)
theorem mlL_23 : Cond.methodLink R_law 23 y2_remove ∈ BG := bg_t 184 (by decide +kernel) (by decide +kernel)
theorem mlL_28 : Cond.methodLink R_law 28 y2_get ∈ BG := bg_t 192 (by decide +kernel) (by decide +kernel)
theorem mlL_32 : Cond.methodLink R_law 32 y2_next ∈ BG := bg_t 200 (by decide +kernel) (by decide +kernel)
theorem mlL_36 : Cond.methodLink R_law 36 y2_depth ∈ BG := bg_t 208 (by decide +kernel) (by decide +kernel)
theorem mlL_40 : Cond.methodLink R_law 40 y2_size ∈ BG := bg_t 216 (by decide +kernel) (by decide +kernel)
theorem mlL_45 : Cond.methodLink R_law 45 y2_nodes ∈ BG := bg_t 220 (by decide +kernel) (by decide +kernel)
theorem mlL_49 : Cond.methodLink R_law 49 y2_hold ∈ BG := bg_t 224 (by decide +kernel) (by decide +kernel)
theorem mlL_53 : Cond.methodLink R_law 53 y2_release ∈ BG := bg_t 231 (by decide +kernel) (by decide +kernel)
theorem mlL_57 : Cond.methodLink R_law 57 y2_heldGet ∈ BG := bg_t 239 (by decide +kernel) (by decide +kernel)
theorem mlL_61 : Cond.methodLink R_law 61 y2_heldNext ∈ BG := bg_t 243 (by decide +kernel) (by decide +kernel)
theorem mlL_65 : Cond.methodLink R_law 65 y2_crash ∈ BG := bg_t 247 (by decide +kernel) (by decide +kernel)
theorem mlL_70 : Cond.methodLink R_law 70 y2_restart ∈ BG := bg_t 251 (by decide +kernel) (by decide +kernel)
theorem mlL_75 : Cond.methodLink R_law 75 y2_events ∈ BG := bg_t 255 (by decide +kernel) (by decide +kernel)
theorem mlL_79 : Cond.methodLink R_law 79 y2_fences ∈ BG := bg_t 259 (by decide +kernel) (by decide +kernel)
theorem mlL_12 : Cond.methodLink R_law 12 y3_init ∈ BG := bg_t 265 (by decide +kernel) (by decide +kernel)
theorem mlL_17 : Cond.methodLink R_law 17 y3_cut ∈ BG := bg_t 309 (by decide +kernel) (by decide +kernel)
theorem mlL_22 : Cond.methodLink R_law 22 y3_put ∈ BG := bg_t 313 (by decide +kernel) (by decide +kernel)
theorem mlL_27 : Cond.methodLink R_law 27 y3_remove ∈ BG := bg_t 363 (by decide +kernel) (by decide +kernel)
theorem mlL_31 : Cond.methodLink R_law 31 y3_get ∈ BG := bg_t 367 (by decide +kernel) (by decide +kernel)
theorem mlL_35 : Cond.methodLink R_law 35 y3_next ∈ BG := bg_t 375 (by decide +kernel) (by decide +kernel)
theorem mlL_39 : Cond.methodLink R_law 39 y3_depth ∈ BG := bg_t 383 (by decide +kernel) (by decide +kernel)
theorem mlL_44 : Cond.methodLink R_law 44 y3_size ∈ BG := bg_t 387 (by decide +kernel) (by decide +kernel)
theorem mlL_48 : Cond.methodLink R_law 48 y3_nodes ∈ BG := bg_t 391 (by decide +kernel) (by decide +kernel)
theorem mlL_52 : Cond.methodLink R_law 52 y3_hold ∈ BG := bg_t 395 (by decide +kernel) (by decide +kernel)
theorem mlL_56 : Cond.methodLink R_law 56 y3_release ∈ BG := bg_t 402 (by decide +kernel) (by decide +kernel)
theorem mlL_60 : Cond.methodLink R_law 60 y3_heldGet ∈ BG := bg_t 406 (by decide +kernel) (by decide +kernel)
theorem mlL_64 : Cond.methodLink R_law 64 y3_heldNext ∈ BG := bg_t 410 (by decide +kernel) (by decide +kernel)
theorem mlL_69 : Cond.methodLink R_law 69 y3_crash ∈ BG := bg_t 414 (by decide +kernel) (by decide +kernel)
theorem mlL_74 : Cond.methodLink R_law 74 y3_restart ∈ BG := bg_t 418 (by decide +kernel) (by decide +kernel)
theorem mlL_78 : Cond.methodLink R_law 78 y3_events ∈ BG := bg_t 422 (by decide +kernel) (by decide +kernel)
theorem mlL_82 : Cond.methodLink R_law 82 y3_fences ∈ BG := bg_t 426 (by decide +kernel) (by decide +kernel)
