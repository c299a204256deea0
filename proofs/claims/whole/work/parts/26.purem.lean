theorem isIn_eq (i x : Int32) : F_D_isIn i x = 0 ↔ ((x >>> (i &&& 31)) &&& 1) = 0 := by
  obtain ⟨k, hk, e⟩ := zs_amt i
  rw [zs_bit hk e]
  have h1 : (x &&& ((1 : Int32) <<< (i &&& 31))) = 0 ↔ x.toBitVec.getLsbD k = false := by
    rw [← Int32.toBitVec_inj, Int32.toBitVec_and, zs_two hk e, show (0 : Int32).toBitVec = 0#32 by decide]
    constructor
    · intro h
      have h2 := congrArg (fun z : BitVec 32 => z.getLsbD k) h
      simp only [BitVec.getLsbD_and, BitVec.getLsbD_twoPow, BitVec.getLsbD_zero, decide_eq_true hk, decide_true, Bool.and_true] at h2
      exact h2
    · intro h
      apply BitVec.eq_of_getLsbD_eq
      intro j hj
      rw [BitVec.getLsbD_and, BitVec.getLsbD_twoPow, BitVec.getLsbD_zero]
      by_cases q : k = j
      · subst q; rw [h, Bool.false_and]
      · rw [decide_eq_false q, Bool.and_false, Bool.and_false]
  unfold F_D_isIn
  rw [← h1]
  split
  · rename_i q; simp [q]
  · rename_i q; simp [q]
theorem left_loop {L : SD} {M : SM} (hc : F_K_count (sD_drawn L) = sM_parts M) (hl : sD_leftParts L = sM_left M) (x : Int32) : ∀ (n : Nat) (v2 v3 : Int32), L_M_left_9 n M x v2 v3 = (L_D_left_4 n L x v2 v3, M) := by
  intro n
  induction n with
  | zero => intro v2 v3; rfl
  | succ n ih =>
    intro v2 v3
    rw [L_M_left_9, L_D_left_4, hc, hl]
    by_cases h1 : sM_parts M ≤ v3
    · rw [if_pos h1, if_pos h1]
    · rw [if_neg h1, if_neg h1]
      by_cases h2 : ((sM_left M >>> (v3 &&& 31)) &&& 1) = 0
      · rw [if_pos h2, if_pos ((isIn_eq _ _).mpr h2), ih]
      · rw [if_neg h2, if_neg (fun z => h2 ((isIn_eq _ _).mp z))]
        by_cases h3 : v2 = x
        · rw [if_pos h3, if_pos h3]
        · rw [if_neg h3, if_neg h3, ih]
theorem op_left {L : SD} {M : SM} (h : Big L M) (x : Int32) : F_D_left L x = (F_M_left M x).1 ∧ Big L (F_M_left M x).2 := by
  obtain ⟨hk, P, hP2, hP, hPM, hR, _⟩ := h.2.1
  have hc : F_K_count (sD_drawn L) = sM_parts (uM_thrown M 0) := hP.trans hPM.symm
  unfold F_D_left F_M_left
  rw [hc, left_loop hc (show sD_leftParts L = sM_left (uM_thrown M 0) from h.2.2.1)]
  exact ⟨rfl, h.thrown⟩
theorem min0 (M : SM) : ∀ (n : Nat) (v : Int32), L_M_minimal_16 n M 0 v = (0, M) := by
  intro n
  induction n with
  | zero => intro v; rfl
  | succ n ih =>
    intro v
    rw [L_M_minimal_16]
    split
    · rfl
    · rw [if_pos rfl, ih]
theorem min_loop {L : SD} {M : SM} (hc : F_K_count (sD_drawn L) = sM_parts M) (hl : sD_leftParts L = sM_left M) (h1 : Rows2 (sD_needed L) (sM_needed M) (sM_rows M) 0) (h2 : Rows2 (sD_together L) (sM_together M) (sM_rows M) 6) : ∀ (n : Nat) (v : Int32), L_M_minimal_16 n M 1 v = (L_D_minimal_15 n L v, M) := by
  intro n
  induction n with
  | zero => intro v; rfl
  | succ n ih =>
    intro v
    rw [L_M_minimal_16, L_D_minimal_15, hc, hl]
    by_cases q1 : sM_parts M ≤ v
    · rw [if_pos q1, if_pos q1]
    · rw [if_neg q1, if_neg q1, if_neg (show ¬ (1 : Int32) = 0 by decide)]
      by_cases q2 : ((sM_left M >>> (v &&& 31)) &&& 1) = 0
      · rw [if_pos q2, if_pos ((isIn_eq _ _).mpr q2), ih]
      · rw [if_neg q2, if_neg (fun z => q2 ((isIn_eq _ _).mp z)), stays_eq h1 h2]
        have e : F_D_without v (sM_left M) = sM_left M &&& (((1 : Int32) <<< (v &&& 31)) ^^^ (-1)) := rfl
        rw [e]
        by_cases q3 : F_M_stays M (sM_left M &&& (((1 : Int32) <<< (v &&& 31)) ^^^ (-1))) = 0
        · rw [if_pos q3, if_pos q3, ih]
        · rw [if_neg q3, if_neg q3, min0]
theorem op_minimal {L : SD} {M : SM} (h : Big L M) : F_D_minimal L = (F_M_minimal M).1 ∧ Big L (F_M_minimal M).2 := by
  obtain ⟨hk, P, hP2, hP, hPM, hR, _⟩ := h.2.1
  have hc : F_K_count (sD_drawn L) = sM_parts (uM_thrown M 0) := hP.trans hPM.symm
  have hl : sD_leftParts L = sM_left (uM_thrown M 0) := h.2.2.1
  have h1 : Rows2 (sD_needed L) (sM_needed (uM_thrown M 0)) (sM_rows (uM_thrown M 0)) 0 := h.2.2.2.1
  have h2 : Rows2 (sD_together L) (sM_together (uM_thrown M 0)) (sM_rows (uM_thrown M 0)) 6 := h.2.2.2.2
  unfold F_D_minimal F_M_minimal
  rw [hc, h.2.2.1, stays_eq (M := uM_thrown M 0) h1 h2]
  generalize (Int32.toInt (sM_parts (uM_thrown M 0)) - Int32.toInt 0).toNat + 1 = fuel
  by_cases q : F_M_stays (uM_thrown M 0) (sM_left M) = 0
  · rw [if_pos q, q, min0]
    exact ⟨rfl, h.thrown⟩
  · rw [if_neg q, (bi_stays (uM_thrown M 0) (sM_left M)).resolve_left q, min_loop hc hl h1 h2]
    exact ⟨rfl, h.thrown⟩
-- verdict
theorem add_full {T : SR} {a : Nat} (h : sR_told T = nI a) (h6 : a = 6) (x : Int32) : F_R_add T x = T := by
  unfold F_R_add
  rw [h, if_neg (nI_pos (by omega)), if_pos (show (6 : Int32) ≤ nI a from nI_le (a := 6) (by omega) (by omega))]
theorem add_more {T : SR} {a : Nat} (h : sR_told T = nI a) (h6 : a < 6) (x : Int32) : F_R_add T x = uR_told (uR_rows T (upd (sR_rows T) a x)) (nI (a + 1)) := by
  unfold F_R_add
  rw [h, if_neg (nI_pos (by omega)), if_neg (show ¬ (6 : Int32) ≤ nI a from nI_ge (b := 6) (by omega) (by decide)), nI_clamp (by omega), nI_1]
theorem op_verdict {L : SD} {M : SM} (h : Big L M) (x y : Int32) : Big (F_D_verdict L x y) (F_M_verdict M x y) := by
  obtain ⟨hs, hD, hl, hN, hT⟩ := id h
  obtain ⟨hk, P, hP2, hP, hPM, hR, hb⟩ := id hD
  have hc : F_K_count (sD_drawn L) = sM_parts M := hP.trans hPM.symm
  have ha : F_K_allParts (sD_drawn L) = F_M_all (uM_thrown M 0) := by
    unfold F_K_allParts F_M_all
    rw [hP, show sM_parts (uM_thrown M 0) = nI P from hPM]
  unfold F_D_verdict F_M_verdict
  rw [hc]
  by_cases q0 : sM_parts M = 0
  · rw [if_pos q0, if_pos q0]
    exact h.thrown
  · rw [if_neg q0, if_neg q0, ha]
    generalize x &&& F_M_all (uM_thrown M 0) = w
    by_cases q1 : y = 0
    · rw [if_pos q1, if_pos q1]
      obtain ⟨b, hb6, e1, e2, e3⟩ := hT
      by_cases q2 : b = 6
      · subst q2
        rw [if_pos (show sM_together M = 6 from e2), add_full e1 rfl]
        exact h.thrown
      · rw [if_neg (show ¬ sM_together M = 6 from fun z => q2 ((nI_eq (a := b) (b := 6) (by omega) (by decide)).mp (e2.symm.trans z))), add_more e1 (by omega), e2, nI_1, show Int32.toNatClampNeg (6 + nI b) = 6 + b by rw [show (6 : Int32) = nI 6 from rfl, nI_add, nI_clamp (by omega)]]
        refine ⟨hs, hD, hl, ?_, b + 1, by omega, rfl, rfl, fun j hj => ?_⟩
        · obtain ⟨a, ha6, g1, g2, g3⟩ := hN
          refine ⟨a, ha6, g1, g2, fun j hj => ?_⟩
          show sR_rows (sD_needed L) j = upd (sM_rows M) (6 + b) w (0 + j)
          rw [pk_un (by omega)]
          exact g3 j hj
        · show upd (sR_rows (sD_together L)) b w j = upd (sM_rows M) (6 + b) w (6 + j)
          by_cases z : j = b
          · subst z; rw [pk_us, pk_us]
          · rw [pk_un z, pk_un (by omega)]
            exact e3 j (by omega)
    · rw [if_neg q1, if_neg q1]
      obtain ⟨a, ha6, e1, e2, e3⟩ := hN
      by_cases q2 : a = 6
      · subst q2
        rw [if_pos (show sM_needed M = 6 from e2), add_full e1 rfl]
        exact h.thrown
      · rw [if_neg (show ¬ sM_needed M = 6 from fun z => q2 ((nI_eq (a := a) (b := 6) (by omega) (by decide)).mp (e2.symm.trans z))), add_more e1 (by omega), e2, nI_1, nI_clamp (by omega)]
        refine ⟨hs, hD, hl, ⟨a + 1, by omega, rfl, rfl, fun j hj => ?_⟩, ?_⟩
        · show upd (sR_rows (sD_needed L)) a w j = upd (sM_rows M) a w (0 + j)
          by_cases z : j = a
          · subst z; rw [Nat.zero_add, pk_us, pk_us]
          · rw [Nat.zero_add, pk_un z, pk_un z]
            have := e3 j (by omega)
            rw [Nat.zero_add] at this
            exact this
        · obtain ⟨b, hb6, g1, g2, g3⟩ := hT
          refine ⟨b, hb6, g1, g2, fun j hj => ?_⟩
          show sR_rows (sD_together L) j = upd (sM_rows M) a w (6 + j)
          rw [pk_un (by omega)]
          exact g3 j hj
-- draw
theorem all_bits : ∀ P, P < 22 → ∀ j, j < 32 → P ≤ j → (((1 : Int32) <<< (nI P &&& 31)) - 1).toBitVec.getLsbD j = false := by decide +kernel
theorem all_out {P : Nat} (hP : P ≤ 21) (j : Nat) (hj : P ≤ j) : (((1 : Int32) <<< (nI P &&& 31)) - 1).toBitVec.getLsbD j = false := by
  rcases Nat.lt_or_ge j 32 with q | q
  · exact all_bits P (by omega) j q hj
  · exact BitVec.getLsbD_of_ge _ _ q
theorem op_draw {L : SD} {M : SM} (h : Big L M) (x y : Int32) : (F_D_draw L x y).1 = (F_M_draw M x y).1 ∧ Big (F_D_draw L x y).2 (F_M_draw M x y).2 := by
  unfold F_D_draw F_M_draw
  by_cases hc : F_D_canBeDrawn x y = 0
  · rw [if_pos hc, if_pos (show F_M_can x y = 0 by rw [← can_eq]; exact hc)]
    exact ⟨rfl, h.thrown⟩
  · rw [if_neg hc, if_neg (show ¬ F_M_can x y = 0 by rw [← can_eq]; exact hc)]
    obtain ⟨z, c', nm, sg, ts, us, v, t, hz, rfl, hk, e1, e2, hR, _⟩ := fill_rel (sD_drawn L) (uM_thrown M 0) (sD_seed L) (s := 0) (by decide) hc
    have e2' : F_M_draws (uM_thrown M 0) 0 (sM_seed M) x (nI z) = mk (uM_thrown M 0) c' v t := by rw [← h.1]; exact e2
    rw [e1, e2', nI_1]
    refine ⟨rfl, h.1, ⟨rfl, z + 1, by omega, rfl, rfl, hR, fun j hj => ?_⟩, rfl, ⟨0, by decide, rfl, rfl, fun j hj => absurd hj (Nat.not_lt_zero _)⟩, ⟨0, by decide, rfl, rfl, fun j hj => absurd hj (Nat.not_lt_zero _)⟩⟩
    exact all_out (P := z + 1) (by omega) j hj
