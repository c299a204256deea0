-- majority
theorem wins22 {M : SM} (S : SK) (κ : SM → Int32 → Int32 → Int32 → Int32 → Int32) (v1 v2 v3 : Int32) : ∀ (n : Nat) (v4 v5 : Int32), (v2.toInt - v5.toInt).toNat < n → L_M_wins_22 κ n M v1 v2 v3 v4 v5 = κ M v1 v2 v3 (L_K_votes_24 n S v3 v2 (sM_values M (Int32.toNatClampNeg ((3 * v1) + 1))) 3 v4 v5) := by
  intro n
  induction n with
  | zero => intro v4 v5 h; omega
  | succ n ih =>
    intro v4 v5 h
    rw [L_M_wins_22, L_K_votes_24]
    by_cases h1 : v2 ≤ v5
    · rw [if_pos h1, if_pos h1]
    · rw [if_neg h1, if_neg h1]
      by_cases h2 : ((sM_values M (Int32.toNatClampNeg ((3 * v1) + 1))) >>> ((2 * v5) &&& 31)) &&& 3 = v3
      · rw [if_pos h2, if_pos h2, ih _ _ (zdec h1 h)]
      · rw [if_neg h2, if_neg h2, Int32.add_zero, ih _ _ (zdec h1 h)]
theorem wins11 {M : SM} {S : SK} (v1 v2 : Int32) (e0 : F_K_number S v1 0 = v2) (e1 : F_K_number S v1 1 = sM_values M (Int32.toNatClampNeg ((3 * v1) + 1))) : ∀ (n : Nat) (v3 : Int32), L_M_wins_11 n M v1 v2 v3 = L_K_winner_20 n S v1 v3 := by
  intro n
  induction n with
  | zero => intro v3; rfl
  | succ n ih =>
    intro v3
    rw [L_M_wins_11, L_K_winner_20]
    by_cases h1 : 3 ≤ v3
    · rw [if_pos h1, if_pos h1]
    · rw [if_neg h1, if_neg h1, wins22 S _ v1 v2 v3 _ 0 0 (Nat.lt_succ_self _)]
      have e : F_K_votes S v1 v3 = L_K_votes_24 ((Int32.toInt v2 - Int32.toInt 0).toNat + 1) S v3 v2 (sM_values M (Int32.toNatClampNeg ((3 * v1) + 1))) 3 0 0 := by
        unfold F_K_votes
        rw [e0, e1]
      rw [e, e0, ih]
theorem wins_eq {S : SK} {M : SM} {P : Nat} {k : Int32} {sg ts : Nat → Int32} {us : Int32} (hR : Rel k 0 P (sK_numbers S) sg ts us (sM_values M) (sM_title M)) (hP : sK_parts S = nI P) (hP2 : P ≤ 21) {p : Nat} (h : p < P) : F_M_wins M (nI p) = L_K_winner_20 ((Int32.toInt 3 - Int32.toInt 0).toNat + 1) S (nI p) 0 := by
  unfold F_M_wins
  rw [ix30 (show p ≤ 21 by omega)]
  refine wins11 (nI p) _ ?_ ?_ _ 0
  · exact nv_eq hR hP hP2 h (w := 0) (by decide)
  · rw [show (1 : Int32) = nI 1 from rfl, nv_eq hR hP hP2 h (w := 1) (by decide), ix3 (by omega) (by decide)]
theorem win_rng (S : SK) (v1 : Int32) : ∀ (n : Nat) (v2 : Int32), ¬ v2 < 0 → L_K_winner_20 n S v1 v2 = -1 ∨ ¬ L_K_winner_20 n S v1 v2 < 0 := by
  intro n
  induction n with
  | zero => intro v2 _; exact Or.inr (by show ¬ (0 : Int32) < 0; decide)
  | succ n ih =>
    intro v2 h
    rw [L_K_winner_20]
    by_cases h1 : 3 ≤ v2
    · rw [if_pos h1]; exact Or.inl rfl
    · rw [if_neg h1]
      split
      · exact ih _ (zi_nn h1 h)
      · exact Or.inr h
theorem op_majority {L : SD} {M : SM} (h : Big L M) (x : Int32) : F_D_majority L x = (F_M_majority M x).1 ∧ Big L (F_M_majority M x).2 := by
  obtain ⟨hk, P, hP2, hP, hPM, hR, _⟩ := h.2.1
  have hPM' : sM_parts (uM_thrown M 0) = nI P := hPM
  unfold F_D_majority F_M_majority F_K_winner
  rw [hk]
  by_cases h1 : sM_kind M = 1
  · rw [if_pos h1, if_pos h1]
    rcases pk_ix x (show P < 2 ^ 31 by omega) with q | q | ⟨p, hp, rfl⟩
    · rw [if_pos (isP_lo q), if_pos (has_lo q)]
      exact ⟨rfl, h.thrown⟩
    · rw [if_pos (isP_hi hPM' hP2 q), if_pos (has_hi hP q)]
      exact ⟨rfl, h.thrown⟩
    · rw [isP_in hPM' hP2 hp, has_in hP hP2 hp, if_neg (by decide), if_neg (by decide)]
      exact ⟨(wins_eq (M := uM_thrown M 0) hR hP hP2 hp).symm, h.thrown⟩
  · rw [if_neg h1, if_neg h1]
    exact ⟨rfl, h.thrown⟩
-- ends
theorem last_eq {S : SK} {M : SM} {P : Nat} {k : Int32} {sg ts : Nat → Int32} {us : Int32} (hR : Rel k 0 P (sK_numbers S) sg ts us (sM_values M) (sM_title M)) (hP : sK_parts S = nI P) (hP2 : P ≤ 21) {p : Nat} (h : p < P) : F_K_lastDay S (nI p) = F_M_lastDay M (nI p) := by
  unfold F_K_lastDay F_M_lastDay
  rw [ix30 (show p ≤ 21 by omega), show Int32.toNatClampNeg (3 * nI p + 1) = 3 * p + 1 from ix3 (w := 1) (by omega) (by decide), show Int32.toNatClampNeg (3 * nI p + 2) = 3 * p + 2 from ix3 (w := 2) (by omega) (by decide)]
  rw [show F_K_number S (nI p) 0 = sM_values M (3 * p) from nv_eq hR hP hP2 h (w := 0) (by decide), show F_K_number S (nI p) 1 = sM_values M (3 * p + 1) from nv_eq hR hP hP2 h (w := 1) (by decide), show F_K_number S (nI p) 2 = sM_values M (3 * p + 2) from nv_eq hR hP hP2 h (w := 2) (by decide), Int32.mul_comm]
theorem op_ends {L : SD} {M : SM} (h : Big L M) (x : Int32) : F_D_ends L x = (F_M_ends M x).1 ∧ Big L (F_M_ends M x).2 := by
  obtain ⟨hk, P, hP2, hP, hPM, hR, _⟩ := h.2.1
  have hPM' : sM_parts (uM_thrown M 0) = nI P := hPM
  unfold F_D_ends F_M_ends F_K_isPattern
  rw [hk]
  by_cases h1 : sM_kind M = 2
  · rw [if_pos h1, if_pos h1]
    rcases pk_ix x (show P < 2 ^ 31 by omega) with q | q | ⟨p, hp, rfl⟩
    · rw [if_pos (isP_lo q), if_pos (has_lo q), if_pos rfl]
      exact ⟨rfl, h.thrown⟩
    · rw [if_pos (isP_hi hPM' hP2 q), if_pos (has_hi hP q), if_pos rfl]
      exact ⟨rfl, h.thrown⟩
    · simp only [isP_in hPM' hP2 hp, has_in hP hP2 hp, if_neg (show ¬ (1 : Int32) = 0 by decide), last_eq (M := uM_thrown M 0) hR hP hP2 hp]
      split
      · exact ⟨rfl, h.thrown⟩
      · exact ⟨rfl, h.thrown⟩
  · rw [if_neg h1, if_neg h1, if_pos rfl]
    exact ⟨rfl, h.thrown⟩
