/-- what is known of one key of the new state: kept with the old key's node and id, or new on both sides -/
theorem new_at {fk0 fv0 fr0 fd0 fk3 fv3 fr3 fd3 gi gi2 K V fe3 : Nat → Int32} {n0 n3 made : Nat} {d0 i0 : Nat → Nat} {U : Nat → Bool} (h0 : n0 ≤ 30) (N0 : ND fd0 d0 n0 gi 0 i0 made) (hgi : ∀ x, x < 93 → gi2 x = gi x) (s3 : SD fk3 fv3 n3 K V 3) (r3 : RK fk3 fr3 n3) (s0 : SD fk0 fv0 n0 K V 0) (r0 : RK fk0 fr0 n0) (hG : GVd U (keF fd3 fd0 (kpC fk3 fv3 fr3 fk0 fv0 fr0 n3 n0) (olC fk3 fk0 n0) n3) n3 fe3) {i : Nat} (hi : i < n3) :
    (∃ b, b < n0 ∧ fk0 b = fk3 i ∧ fe3 i = nI (d0 b) ∧ sec (stR gi2 K V n3 n0 made n3) 3 i = nI (i0 b)) ∨ (kpR K V n3 n0 i = false ∧ keF fd3 fd0 (kpC fk3 fv3 fr3 fk0 fv0 fr0 n3 n0) (olC fk3 fk0 n0) n3 i = -1 ∧ ∃ g, fe3 i = nI g ∧ g < 64 ∧ U g = false ∧ sec (stR gi2 K V n3 n0 made n3) 3 i = nI (made + nwR K V n3 n0 (i + 1))) := by
  have hk := kp_same s3 r3 s0 r0 hi
  have hs : sec (stR gi2 K V n3 n0 made n3) 3 i = if kpR K V n3 n0 i = true then gi2 (olR K n0 i) else nI (made + nwR K V n3 n0 (i + 1)) := setl_in hi
  have hke : keF fd3 fd0 (kpC fk3 fv3 fr3 fk0 fv0 fr0 n3 n0) (olC fk3 fk0 n0) n3 i = if kpC fk3 fv3 fr3 fk0 fv0 fr0 n3 n0 i = true then fd0 (olC fk3 fk0 n0 i) else -1 := keF_in hi
  cases hb : kpR K V n3 n0 i with
  | true =>
    left
    have hc := hk.trans hb
    have h1 : ∃ b, fnK fk0 n0 (fk3 i) = some b := by
      unfold kpC kpT at hc
      cases hq : fnK fk0 n0 (fk3 i) with
      | none => rw [hq] at hc; cases hc
      | some b => exact ⟨b, rfl⟩
    obtain ⟨b, hq⟩ := h1
    have h2 := fnK_some hq
    have ho : olC fk3 fk0 n0 i = b := by unfold olC; rw [hq]; rfl
    have ho2 : olR K n0 i = b := by rw [← ol_same s3 s0 hi]; exact ho
    have hd := N0.1 b h2.1
    rw [hc, if_pos rfl, ho, hd.1] at hke
    refine ⟨b, h2.1, h2.2, ?_, ?_⟩
    · rw [hG.1 i hi (by rw [hke]; exact fun e => (n_m1 (by omega)).mp e), hke]
    · rw [hs, if_pos hb, ho2, hgi b (by omega)]
      have := (N0.2.1 b h2.1).1
      unfold sec at this
      rw [← this]; congr 1; omega
  | false =>
    right
    have hc := hk.trans hb
    rw [hc] at hke
    have hke : keF fd3 fd0 (kpC fk3 fv3 fr3 fk0 fv0 fr0 n3 n0) (olC fk3 fk0 n0) n3 i = -1 := hke
    obtain ⟨g, g1, g2, g3⟩ := hG.2.1 i hi hke
    refine ⟨rfl, hke, g, g1, g2, g3, ?_⟩
    rw [hs, hb]; rfl
theorem new_nodes {fk0 fv0 fr0 fd0 fk3 fv3 fr3 fd3 gi gi2 K V fe3 : Nat → Int32} {n0 n1 n2 n3 made : Nat} {d0 d1 d2 i0 i1 i2 : Nat → Nat} {t1 t2 : Bool} (h0 : n0 ≤ 30) (h3 : n3 ≤ 30) (hm : made + 31 < 2 ^ 31) (N0 : ND fd0 d0 n0 gi 0 i0 made) (I1 : t1 = true → (∀ i, i < n1 → i1 i ≤ made) ∧ CR d0 n0 d1 n1 i0 i1) (I2 : t2 = true → (∀ i, i < n2 → i2 i ≤ made) ∧ CR d0 n0 d2 n2 i0 i2) (hgi : ∀ x, x < 93 → gi2 x = gi x) (s3 : SD fk3 fv3 n3 K V 3) (r3 : RK fk3 fr3 n3) (s0 : SD fk0 fv0 n0 K V 0) (r0 : RK fk0 fr0 n0) (hG : GVd (U3 d0 d1 d2 n0 n1 n2 t1 t2) (keF fd3 fd0 (kpC fk3 fv3 fr3 fk0 fv0 fr0 n3 n0) (olC fk3 fk0 n0) n3) n3 fe3) :
    ∃ d x : Nat → Nat, ND fe3 d n3 (stR gi2 K V n3 n0 made n3) 3 x (made + nwR K V n3 n0 n3) ∧ (t1 = true → CR d n3 d1 n1 x i1) ∧ (t2 = true → CR d n3 d2 n2 x i2) := by
  have hnw : ∀ i, i < n3 → nwR K V n3 n0 (i + 1) ≤ nwR K V n3 n0 n3 := fun i hi => cntF_mono _ (by omega)
  have hn3 : nwR K V n3 n0 n3 ≤ n3 := cntF_le _ _
  have at_ := fun {i : Nat} (hi : i < n3) => new_at (made := made) h0 N0 hgi s3 r3 s0 r0 hG hi
  have key : ∀ i, i < n3 → (fe3 i = nI (fe3 i).toNatClampNeg ∧ (fe3 i).toNatClampNeg < 64) ∧ sec (stR gi2 K V n3 n0 made n3) 3 i = nI (sec (stR gi2 K V n3 n0 made n3) 3 i).toNatClampNeg ∧ (sec (stR gi2 K V n3 n0 made n3) 3 i).toNatClampNeg ≤ made + nwR K V n3 n0 n3 ∧
      ((∃ b, b < n0 ∧ fk0 b = fk3 i ∧ (fe3 i).toNatClampNeg = d0 b ∧ (sec (stR gi2 K V n3 n0 made n3) 3 i).toNatClampNeg = i0 b) ∨
       (kpR K V n3 n0 i = false ∧ keF fd3 fd0 (kpC fk3 fv3 fr3 fk0 fv0 fr0 n3 n0) (olC fk3 fk0 n0) n3 i = -1 ∧ U3 d0 d1 d2 n0 n1 n2 t1 t2 (fe3 i).toNatClampNeg = false ∧ (sec (stR gi2 K V n3 n0 made n3) 3 i).toNatClampNeg = made + nwR K V n3 n0 (i + 1) ∧ 1 ≤ nwR K V n3 n0 (i + 1))) := by
    intro i hi
    rcases at_ hi with ⟨b, b1, b2, b3, b4⟩ | ⟨g0, g1, g, g2, g3, g4, g5⟩
    · have hd := (N0.1 b b1).2
      have hx := (N0.2.1 b b1).2
      rw [b3, b4, nI_clamp (by omega), nI_clamp (by omega)]
      exact ⟨⟨rfl, hd⟩, rfl, by omega, Or.inl ⟨b, b1, b2, rfl, rfl⟩⟩
    · have h1 := hnw i hi
      have h2 : nwR K V n3 n0 (i + 1) = nwR K V n3 n0 i + 1 := cntF_add1 (by rw [g0]; rfl)
      rw [g2, g5, nI_clamp (by omega), nI_clamp (by omega)]
      exact ⟨⟨rfl, g3⟩, rfl, by omega, Or.inr ⟨g0, g1, g4, rfl, by omega⟩⟩
  refine ⟨fun i => (fe3 i).toNatClampNeg, fun i => (sec (stR gi2 K V n3 n0 made n3) 3 i).toNatClampNeg, ⟨fun i hi => (key i hi).1, fun i hi => ⟨(key i hi).2.1, (key i hi).2.2.1⟩, fun i j hij hj => ?_, fun i j hij hj => ?_⟩, fun ht i j hi hj => ?_, fun ht i j hi hj => ?_⟩
  · show (fe3 i).toNatClampNeg ≠ (fe3 j).toNatClampNeg
    intro e
    rcases (key i (by omega)).2.2.2 with ⟨b, b1, b2, b3, b4⟩ | ⟨g0, g1, g2, g3, g4⟩ <;> rcases (key j hj).2.2.2 with ⟨c, c1, c2, c3, c4⟩ | ⟨k0, k1, k2, k3, k4⟩
    · rw [b3, c3] at e
      have := (inj_iff N0.2.2.1 b1 c1).mp e
      subst this
      have h5 := s3.2.2 i j hij hj
      rw [← b2, ← c2] at h5
      exact Int32.lt_irrefl h5
    · rw [← e, b3, U3_0 b1] at k2; cases k2
    · rw [e, c3, U3_0 c1] at g2; cases g2
    · refine hG.2.2 i j hij hj g1 k1 ?_
      rw [(key i (by omega)).1.1, (key j hj).1.1, e]
  · show (sec (stR gi2 K V n3 n0 made n3) 3 i).toNatClampNeg ≠ (sec (stR gi2 K V n3 n0 made n3) 3 j).toNatClampNeg
    intro e
    rcases (key i (by omega)).2.2.2 with ⟨b, b1, b2, b3, b4⟩ | ⟨g0, g1, g2, g3, g4⟩ <;> rcases (key j hj).2.2.2 with ⟨c, c1, c2, c3, c4⟩ | ⟨k0, k1, k2, k3, k4⟩
    · rw [b4, c4] at e
      have := (inj_iff N0.2.2.2 b1 c1).mp e
      subst this
      have h5 := s3.2.2 i j hij hj
      rw [← b2, ← c2] at h5
      exact Int32.lt_irrefl h5
    · have := (N0.2.1 b b1).2
      rw [b4, k3] at e; omega
    · have := (N0.2.1 c c1).2
      rw [c4, g3] at e; omega
    · have h6 : nwR K V n3 n0 (j + 1) = nwR K V n3 n0 j + 1 := cntF_add1 (by rw [k0]; rfl)
      have h7 : nwR K V n3 n0 (i + 1) ≤ nwR K V n3 n0 j := cntF_mono _ (by omega)
      rw [g3, k3] at e; omega
  · show (fe3 i).toNatClampNeg = d1 j ↔ (sec (stR gi2 K V n3 n0 made n3) 3 i).toNatClampNeg = i1 j
    rcases (key i hi).2.2.2 with ⟨b, b1, b2, b3, b4⟩ | ⟨g0, g1, g2, g3, g4⟩
    · rw [b3, b4]; exact (I1 ht).2 b j b1 hj
    · have := (I1 ht).1 j hj
      constructor
      · intro e; rw [e, U3_1 ht hj] at g2; cases g2
      · intro e; rw [g3] at e; omega
  · show (fe3 i).toNatClampNeg = d2 j ↔ (sec (stR gi2 K V n3 n0 made n3) 3 i).toNatClampNeg = i2 j
    rcases (key i hi).2.2.2 with ⟨b, b1, b2, b3, b4⟩ | ⟨g0, g1, g2, g3, g4⟩
    · rw [b3, b4]; exact (I2 ht).2 b j b1 hj
    · have := (I2 ht).1 j hj
      constructor
      · intro e; rw [e, U3_2 ht hj] at g2; cases g2
      · intro e; rw [g3] at e; omega
