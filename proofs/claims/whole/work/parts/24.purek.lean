-- planted
theorem shows_eq {S : SK} {M : SM} {P : Nat} {sg ts : Nat → Int32} {us : Int32} (hk : sK_kind S = sM_kind M) (hR : Rel (sM_kind M) 0 P (sK_numbers S) sg ts us (sM_values M) (sM_title M)) (hP : sK_parts S = nI P) (hP2 : P ≤ 21) {p : Nat} (h : p < P) {w : Nat} (hw : w < 8) : F_K_shows S (nI p) (nI w) = F_M_isPlanted M (nI p) (nI w) := by
  have n0 : F_K_number S (nI p) 0 = sM_values M (3 * p) := nv_eq hR hP hP2 h (w := 0) (by decide)
  have n1 : F_K_number S (nI p) 1 = sM_values M (3 * p + 1) := nv_eq hR hP hP2 h (w := 1) (by decide)
  have n2 : F_K_number S (nI p) 2 = sM_values M (3 * p + 2) := nv_eq hR hP hP2 h (w := 2) (by decide)
  have j0 : Int32.toNatClampNeg (3 * nI p) = 3 * p := ix30 (by omega)
  have j1 : Int32.toNatClampNeg (3 * nI p + 1) = 3 * p + 1 := ix3 (w := 1) (by omega) (by decide)
  have j2 : Int32.toNatClampNeg (3 * nI p + 2) = 3 * p + 2 := ix3 (w := 2) (by omega) (by decide)
  have hr := hR.2.2.2 p h
  rw [show 3 * (21 * 0 + p) + 1 = 3 * p + 1 by omega, show 3 * (21 * 0 + p) + 2 = 3 * p + 2 by omega] at hr
  unfold F_K_shows F_M_isPlanted
  rw [n0, n1, n2, j0, j1, j2, hk]
  rcases (show w = 0 ∨ w = 1 ∨ w = 2 ∨ w = 3 ∨ w = 4 ∨ w = 5 ∨ w = 6 ∨ w = 7 by omega) with rfl | rfl | rfl | rfl | rfl | rfl | rfl | rfl
  · rw [if_pos (show nI 0 = 0 from rfl), if_pos (show nI 0 = 0 from rfl)]
  · rw [if_neg (show ¬ nI 1 = 0 by decide), if_neg (show ¬ nI 1 = 0 by decide), if_pos (show nI 1 = 1 from rfl), if_pos (show nI 1 = 1 from rfl)]
  · rw [if_neg (show ¬ nI 2 = 0 by decide), if_neg (show ¬ nI 2 = 0 by decide), if_neg (show ¬ nI 2 = 1 by decide), if_neg (show ¬ nI 2 = 1 by decide), if_pos (show nI 2 = 2 from rfl), if_pos (show nI 2 = 2 from rfl)]
    by_cases h0 : sM_kind M = 0
    · rw [if_pos h0, if_pos h0]
      rcases hr.1 h0 with q | q
      · rw [if_pos q, if_pos (by rw [q]; decide)]
      · rw [if_neg q, if_neg (fun z => q (by rw [z]; decide))]
    · rw [if_neg h0, if_neg h0]
  · rw [if_neg (show ¬ nI 3 = 0 by decide), if_neg (show ¬ nI 3 = 0 by decide), if_neg (show ¬ nI 3 = 1 by decide), if_neg (show ¬ nI 3 = 1 by decide), if_neg (show ¬ nI 3 = 2 by decide), if_neg (show ¬ nI 3 = 2 by decide), if_pos (show nI 3 = 3 from rfl), if_pos (show nI 3 = 3 from rfl)]
    by_cases h0 : sM_kind M = 1
    · rw [if_pos h0, if_pos h0, wins_eq hR hP hP2 h]
      unfold F_K_winner
      rw [hk, if_pos h0, has_in hP hP2 h, if_neg (show ¬ (1 : Int32) = 0 by decide)]
      generalize (Int32.toInt 3 - Int32.toInt 0).toNat + 1 = fuel
      rcases win_rng S (nI p) fuel 0 (by decide) with q | q
      · rw [q, if_pos rfl, if_neg (by decide)]
      · rw [if_neg (fun z => q (by rw [z]; decide)), if_pos (Int32.not_lt.mp q)]
    · rw [if_neg h0, if_neg h0]
  · rw [if_neg (show ¬ nI 4 = 0 by decide), if_neg (show ¬ nI 4 = 0 by decide), if_neg (show ¬ nI 4 = 1 by decide), if_neg (show ¬ nI 4 = 1 by decide), if_neg (show ¬ nI 4 = 2 by decide), if_neg (show ¬ nI 4 = 2 by decide), if_neg (show ¬ nI 4 = 3 by decide), if_neg (show ¬ nI 4 = 3 by decide), if_pos (show nI 4 = 4 from rfl), if_pos (show nI 4 = 4 from rfl), last_eq hR hP hP2 h]
    unfold F_K_isPattern
    rw [hk]
    by_cases h0 : sM_kind M = 2
    · simp only [if_pos h0, has_in hP hP2 h, if_neg (show ¬ (1 : Int32) = 0 by decide)]
    · simp only [if_neg h0, if_true]
  · rw [if_neg (show ¬ nI 5 = 0 by decide), if_neg (show ¬ nI 5 = 0 by decide), if_neg (show ¬ nI 5 = 1 by decide), if_neg (show ¬ nI 5 = 1 by decide), if_neg (show ¬ nI 5 = 2 by decide), if_neg (show ¬ nI 5 = 2 by decide), if_neg (show ¬ nI 5 = 3 by decide), if_neg (show ¬ nI 5 = 3 by decide), if_neg (show ¬ nI 5 = 4 by decide), if_neg (show ¬ nI 5 = 4 by decide), if_pos (show nI 5 = 5 from rfl), if_pos (show nI 5 = 5 from rfl)]
    by_cases h0 : sM_kind M = 3
    · rw [if_pos h0, if_pos h0]
      have q := hr.2.1 h0
      by_cases h2 : sM_values M (3 * p + 2) = 0
      · rw [if_pos h2, if_pos (by rw [h2]; decide)]
      · rw [if_neg h2, if_neg]
        intro z
        obtain ⟨n, hn, e⟩ := nI_of q
        rw [e] at z h2
        exact h2 ((nI_is0 hn).mpr ((nI_le0 hn).mp z))
    · rw [if_neg h0, if_neg h0]
  · rw [if_neg (show ¬ nI 6 = 0 by decide), if_neg (show ¬ nI 6 = 0 by decide), if_neg (show ¬ nI 6 = 1 by decide), if_neg (show ¬ nI 6 = 1 by decide), if_neg (show ¬ nI 6 = 2 by decide), if_neg (show ¬ nI 6 = 2 by decide), if_neg (show ¬ nI 6 = 3 by decide), if_neg (show ¬ nI 6 = 3 by decide), if_neg (show ¬ nI 6 = 4 by decide), if_neg (show ¬ nI 6 = 4 by decide), if_neg (show ¬ nI 6 = 5 by decide), if_neg (show ¬ nI 6 = 5 by decide), if_pos (show nI 6 = 6 from rfl), if_pos (show nI 6 = 6 from rfl)]
    by_cases h0 : sM_kind M = 4
    · rw [if_pos h0, if_pos h0]
      rcases hr.2.2 h0 with q | q
      · rw [if_pos q, if_pos (by rw [q]; decide)]
      · rw [if_neg q, if_neg (fun z => q (by rw [z]; decide))]
    · rw [if_neg h0, if_neg h0]
  · rw [if_neg (show ¬ nI 7 = 0 by decide), if_neg (show ¬ nI 7 = 0 by decide), if_neg (show ¬ nI 7 = 1 by decide), if_neg (show ¬ nI 7 = 1 by decide), if_neg (show ¬ nI 7 = 2 by decide), if_neg (show ¬ nI 7 = 2 by decide), if_neg (show ¬ nI 7 = 3 by decide), if_neg (show ¬ nI 7 = 3 by decide), if_neg (show ¬ nI 7 = 4 by decide), if_neg (show ¬ nI 7 = 4 by decide), if_neg (show ¬ nI 7 = 5 by decide), if_neg (show ¬ nI 7 = 5 by decide), if_neg (show ¬ nI 7 = 6 by decide), if_neg (show ¬ nI 7 = 6 by decide), if_pos (show nI 7 = 7 from rfl)]
    by_cases h0 : sM_kind M = 5
    · rw [if_pos h0, if_pos h0]
      unfold F_K_timeBefore
      by_cases hp0 : p = 0
      · rw [if_pos ((nI_is0 (by omega)).mpr hp0), if_pos ((nI_le0 (by omega)).mpr hp0)]
      · rw [if_neg (fun z => hp0 ((nI_is0 (by omega)).mp z)), if_neg (fun z => hp0 ((nI_le0 (by omega)).mp z))]
        have e : F_K_number S (nI p - 1) 2 = sM_values M (3 * p - 1) := by
          rw [show (1 : Int32) = nI 1 from rfl, pk_sub (by omega), show (2 : Int32) = nI 2 from rfl, nv_eq hR hP hP2 (show p - 1 < P by omega) (by decide), show 3 * (p - 1) + 2 = 3 * p - 1 by omega]
        have e2 : Int32.toNatClampNeg (3 * nI p - 1) = 3 * p - 1 := by
          rw [show (3 : Int32) = nI 3 from rfl, pk_mul, show (1 : Int32) = nI 1 from rfl, pk_sub (by omega), nI_clamp (by omega)]
        rw [e, e2]
    · rw [if_neg h0, if_neg h0]
theorem planted_loop {L : SD} {M : SM} {P : Nat} {sg ts : Nat → Int32} {us : Int32} (hk : sK_kind (sD_drawn L) = sM_kind M) (hR : Rel (sM_kind M) 0 P (sK_numbers (sD_drawn L)) sg ts us (sM_values M) (sM_title M)) (hP : sK_parts (sD_drawn L) = nI P) (hP2 : P ≤ 21) (hPM : sM_parts M = nI P) {w : Nat} (hw : w < 8) : ∀ (r p f1 f2 : Nat) (v : Int32), P = p + r → r < f1 → r < f2 → (L_M_planted_21 f2 M (nI w) v (nI p)) = (L_D_planted_16 f1 L (nI w) v (nI p), M) := by
  intro r
  induction r with
  | zero =>
    intro p f1 f2 v h1 h2 h3
    obtain ⟨g1, rfl⟩ : ∃ f, f1 = f + 1 := ⟨f1 - 1, by omega⟩
    obtain ⟨g2, rfl⟩ : ∃ f, f2 = f + 1 := ⟨f2 - 1, by omega⟩
    have : p = P := by omega
    subst this
    rw [L_M_planted_21, L_D_planted_16, hPM, if_pos (nI_le (Nat.le_refl _) (by omega))]
    unfold F_K_count
    rw [hP, if_pos (nI_le (Nat.le_refl _) (by omega))]
  | succ r ih =>
    intro p f1 f2 v h1 h2 h3
    obtain ⟨g1, rfl⟩ : ∃ f, f1 = f + 1 := ⟨f1 - 1, by omega⟩
    obtain ⟨g2, rfl⟩ : ∃ f, f2 = f + 1 := ⟨f2 - 1, by omega⟩
    have e1 : F_K_count (sD_drawn L) = nI P := hP
    rw [L_M_planted_21, L_D_planted_16, hPM, e1, if_neg (nI_ge (by omega) (by omega)), if_neg (nI_ge (by omega) (by omega)), shows_eq hk hR hP hP2 (show p < P by omega) hw, Int32.add_zero, nI_1]
    split
    · exact ih (p + 1) g1 g2 _ (by omega) (by omega) (by omega)
    · exact ih (p + 1) g1 g2 _ (by omega) (by omega) (by omega)
theorem op_planted {L : SD} {M : SM} (h : Big L M) (x : Int32) : F_D_planted L x = (F_M_planted M x).1 ∧ Big L (F_M_planted M x).2 := by
  obtain ⟨hk, P, hP2, hP, hPM, hR, _⟩ := h.2.1
  have hPM' : sM_parts (uM_thrown M 0) = nI P := hPM
  have hf1 : P < (Int32.toInt (F_K_count (sD_drawn L)) - Int32.toInt 0).toNat + 1 := by
    rw [show F_K_count (sD_drawn L) = nI P from hP]; exact fu_ok P (by omega)
  have hf2 : P < (Int32.toInt (sM_parts (uM_thrown M 0)) - Int32.toInt 0).toNat + 1 := by
    rw [hPM']; exact fu_ok P (by omega)
  unfold F_D_planted F_M_planted
  generalize (Int32.toInt (F_K_count (sD_drawn L)) - Int32.toInt 0).toNat + 1 = f1 at hf1 ⊢
  generalize (Int32.toInt (sM_parts (uM_thrown M 0)) - Int32.toInt 0).toNat + 1 = f2 at hf2 ⊢
  rcases pk_ix x (show 8 < 2 ^ 31 by decide) with q | q | ⟨w, hw, rfl⟩
  · have e : F_M_in x 0 7 = 0 := by unfold F_M_in; rw [if_pos q]
    rw [if_pos q, if_pos e]
    exact ⟨rfl, h.thrown⟩
  · have q1 := Int32.le_iff_toInt_le.mp q
    rw [nI_toInt (by decide)] at q1
    have e : F_M_in x 0 7 = 0 := by
      unfold F_M_in
      split
      · rfl
      · rw [if_pos]
        rw [Int32.lt_iff_toInt_lt, show (7 : Int32) = nI 7 from rfl, nI_toInt (by decide)]
        omega
    rw [if_pos e]
    refine ⟨?_, h.thrown⟩
    split
    · rfl
    · rw [if_neg]
      rw [Int32.lt_iff_toInt_lt, show (8 : Int32) = nI 8 from rfl, nI_toInt (by decide)]
      omega
  · have e : F_M_in (nI w) 0 7 = 1 := by
      unfold F_M_in
      rw [if_neg (nI_pos (by omega)), if_neg (show ¬ (7 : Int32) < nI w from nI_nlt (b := w) (a := 7) (by omega) (by decide))]
    rw [e, if_neg (show ¬ (1 : Int32) = 0 by decide), if_neg (show ¬ nI w < 0 from nI_pos (by omega)), if_pos (show nI w < 8 from nI_lt (b := 8) hw (by decide))]
    have e2 := planted_loop (M := uM_thrown M 0) hk hR hP hP2 hPM' hw P 0 f1 f2 0 (by omega) hf1 hf2
    have e3 : L_M_planted_21 f2 (uM_thrown M 0) (nI w) 0 0 = (L_D_planted_16 f1 L (nI w) 0 0, uM_thrown M 0) := e2
    rw [e3]
    exact ⟨rfl, h.thrown⟩
