-- same
theorem bi_iff {x y : Int32} (hx : x = 0 ∨ x = 1) (hy : y = 0 ∨ y = 1) (h : x = 1 ↔ y = 1) : x = y := by
  rcases hx with rfl | rfl
  · rcases hy with rfl | rfl
    · rfl
    · exact absurd (h.mpr rfl) (by decide)
  · exact (h.mp rfl).symm
theorem i33 (z : Nat) : (3 * nI z) + 3 = nI (3 * z + 3) := by rw [show (3 : Int32) = nI 3 from rfl, pk_mul, nI_add]
theorem i63 (i : Nat) (h : i < 1000) : Int32.toNatClampNeg (63 + nI i) = 63 + i := by rw [show (63 : Int32) = nI 63 from rfl, nI_add, nI_clamp (by omega)]
theorem i126 (i : Nat) (h : i < 1000) : Int32.toNatClampNeg (126 + nI i) = 126 + i := by rw [show (126 : Int32) = nI 126 from rfl, nI_add, nI_clamp (by omega)]
theorem i633 (i : Nat) (h : i < 1000) : Int32.toNatClampNeg (63 + 3 * nI i) = 63 + 3 * i := by rw [show (63 : Int32) = nI 63 from rfl, show (3 : Int32) = nI 3 from rfl, pk_mul, nI_add, nI_clamp (by omega)]
theorem i1266 (i j : Nat) (h : i < 1000) (h2 : j < 1000) : Int32.toNatClampNeg ((126 + (6 * nI i)) + nI j) = 126 + 6 * i + j := by rw [show (126 : Int32) = nI 126 from rfl, show (6 : Int32) = nI 6 from rfl, pk_mul, nI_add, nI_add, nI_clamp (by omega)]
theorem i2526 (i j : Nat) (h : i < 1000) (h2 : j < 1000) : Int32.toNatClampNeg ((252 + (6 * nI i)) + nI j) = 252 + 6 * i + j := by rw [show (252 : Int32) = nI 252 from rfl, show (6 : Int32) = nI 6 from rfl, pk_mul, nI_add, nI_add, nI_clamp (by omega)]
theorem s43 (S : SM) (k : Int32) {z : Nat} (hz : z ≤ 20) : ∀ (n j fuel : Nat) (v : Int32), 3 * z + 3 = j + n → n < fuel → (v = 0 ∨ v = 1) → ∃ v' : Int32, (v' = 0 ∨ v' = 1) ∧ (v' = 1 ↔ (v = 1 ∧ ∀ i, j ≤ i → i < 3 * z + 3 → sM_values S (63 + i) = sM_values S (126 + i))) ∧ L_M_same_43 fuel S k (nI z) v (nI j) = L_M_same_98 ((Int32.toInt (nI z) + 1 - Int32.toInt 0).toNat + 1) S k (nI z) v' 0 := by
  intro n
  induction n with
  | zero =>
    intro j fuel v h1 h2 hv
    obtain ⟨g, rfl⟩ : ∃ f, fuel = f + 1 := ⟨fuel - 1, by omega⟩
    refine ⟨v, hv, ⟨fun h => ⟨h, fun i hi hi2 => by omega⟩, fun h => h.1⟩, ?_⟩
    rw [L_M_same_43, i33, if_pos (nI_le (by omega) (by omega))]
  | succ n ih =>
    intro j fuel v h1 h2 hv
    obtain ⟨g, rfl⟩ : ∃ f, fuel = f + 1 := ⟨fuel - 1, by omega⟩
    rw [L_M_same_43, i33, if_neg (nI_ge (by omega) (by omega)), i63 j (by omega), i126 j (by omega), nI_1]
    rcases hv with rfl | rfl
    · rw [if_pos rfl]
      obtain ⟨v', a1, a2, a3⟩ := ih (j + 1) g 0 (by omega) (by omega) (Or.inl rfl)
      refine ⟨v', a1, ?_, a3⟩
      rw [a2]
      exact ⟨fun h => absurd h.1 (by decide), fun h => absurd h.1 (by decide)⟩
    · rw [if_neg (show ¬ (1 : Int32) = 0 by decide)]
      by_cases q : sM_values S (63 + j) = sM_values S (126 + j)
      · rw [if_pos q]
        obtain ⟨v', a1, a2, a3⟩ := ih (j + 1) g 1 (by omega) (by omega) (Or.inr rfl)
        refine ⟨v', a1, ?_, a3⟩
        rw [a2]
        refine ⟨fun h => ⟨rfl, fun i hi hi2 => ?_⟩, fun h => ⟨rfl, fun i hi hi2 => h.2 i (by omega) hi2⟩⟩
        rcases Nat.eq_or_lt_of_le hi with w | w
        · rw [← w]; exact q
        · exact h.2 i w hi2
      · rw [if_neg q]
        obtain ⟨v', a1, a2, a3⟩ := ih (j + 1) g 0 (by omega) (by omega) (Or.inl rfl)
        refine ⟨v', a1, ?_, a3⟩
        rw [a2]
        exact ⟨fun h => absurd h.1 (by decide), fun h => absurd (h.2 j (Nat.le_refl _) (by omega)) q⟩
theorem s112 (κ : SM → Int32 → Int32 → Int32 → Int32 → Int32 × SM) (S : SM) (k y : Int32) {p f : Nat} (hp : p ≤ 20) (hf : f ≤ 6) (hv9 : sM_values S (63 + 3 * p) = nI f) : ∀ (n j fuel : Nat) (v : Int32), f = j + n → n < fuel → (v = 0 ∨ v = 1) → ∃ v' : Int32, (v' = 0 ∨ v' = 1) ∧ (v' = 1 ↔ (v = 1 ∧ ∀ i, j ≤ i → i < f → sM_title S (126 + 6 * p + i) = sM_title S (252 + 6 * p + i))) ∧ L_M_same_112 κ fuel S k y v (nI p) (nI j) = κ S k y v' (nI p) := by
  intro n
  induction n with
  | zero =>
    intro j fuel v h1 h2 hv
    obtain ⟨g, rfl⟩ : ∃ f, fuel = f + 1 := ⟨fuel - 1, by omega⟩
    refine ⟨v, hv, ⟨fun h => ⟨h, fun i hi hi2 => by omega⟩, fun h => h.1⟩, ?_⟩
    rw [L_M_same_112, i633 p (by omega), hv9, if_pos (nI_le (by omega) (by omega))]
  | succ n ih =>
    intro j fuel v h1 h2 hv
    obtain ⟨g, rfl⟩ : ∃ f, fuel = f + 1 := ⟨fuel - 1, by omega⟩
    rw [L_M_same_112, i633 p (by omega), hv9, if_neg (nI_ge (by omega) (by omega)), i1266 p j (by omega) (by omega), i2526 p j (by omega) (by omega), nI_1]
    rcases hv with rfl | rfl
    · rw [if_pos rfl]
      exact ⟨0, Or.inl rfl, ⟨fun h => absurd h (by decide), fun h => absurd h.1 (by decide)⟩, rfl⟩
    · rw [if_neg (show ¬ (1 : Int32) = 0 by decide)]
      by_cases q : sM_title S (126 + 6 * p + j) = sM_title S (252 + 6 * p + j)
      · rw [if_pos q]
        obtain ⟨v', a1, a2, a3⟩ := ih (j + 1) g 1 (by omega) (by omega) (Or.inr rfl)
        refine ⟨v', a1, ?_, a3⟩
        rw [a2]
        refine ⟨fun h => ⟨rfl, fun i hi hi2 => ?_⟩, fun h => ⟨rfl, fun i hi hi2 => h.2 i (by omega) hi2⟩⟩
        rcases Nat.eq_or_lt_of_le hi with w | w
        · rw [← w]; exact q
        · exact h.2 i w hi2
      · rw [if_neg q]
        obtain ⟨v', a1, a2, a3⟩ := ih (j + 1) g 0 (by omega) (by omega) (Or.inl rfl)
        refine ⟨v', a1, ?_, a3⟩
        rw [a2]
        exact ⟨fun h => absurd h.1 (by decide), fun h => absurd (h.2 j (Nat.le_refl _) (by omega)) q⟩
theorem s98 (S : SM) {z : Nat} (hz : z ≤ 20) (f : Nat → Nat) (hf : ∀ p, p < z + 1 → f p ≤ 6 ∧ sM_values S (63 + 3 * p) = nI (f p)) : ∀ (n p fuel : Nat) (v : Int32), z + 1 = p + n → n < fuel → (v = 0 ∨ v = 1) → ∃ v' : Int32, (v' = 0 ∨ v' = 1) ∧ (v' = 1 ↔ (v = 1 ∧ ∀ q, p ≤ q → q < z + 1 → ∀ i, i < f q → sM_title S (126 + 6 * q + i) = sM_title S (252 + 6 * q + i))) ∧ L_M_same_98 fuel S 0 (nI z) v (nI p) = (v', S) := by
  intro n
  induction n with
  | zero =>
    intro p fuel v h1 h2 hv
    obtain ⟨g, rfl⟩ : ∃ f, fuel = f + 1 := ⟨fuel - 1, by omega⟩
    refine ⟨v, hv, ⟨fun h => ⟨h, fun i hi hi2 => by omega⟩, fun h => h.1⟩, ?_⟩
    rw [L_M_same_98, if_pos (nI_lt (by omega) (by omega))]
  | succ n ih =>
    intro p fuel v h1 h2 hv
    obtain ⟨g, rfl⟩ : ∃ f, fuel = f + 1 := ⟨fuel - 1, by omega⟩
    obtain ⟨hf1, hf2⟩ := hf p (by omega)
    rw [L_M_same_98, if_neg (nI_nlt (by omega) (by omega)), if_pos rfl, i633 p (by omega), hf2]
    obtain ⟨w, b1, b2, b3⟩ := s112 (fun S9 u3 u4 u5 u6 => (L_M_same_98 g S9 u3 u4 u5 (u6 + 1))) S 0 (nI z) (p := p) (by omega) hf1 hf2 (f p) 0 ((Int32.toInt (nI (f p)) - Int32.toInt 0).toNat + 1) v (by omega) (fu_ok _ (by omega)) hv
    obtain ⟨v', a1, a2, a3⟩ := ih (p + 1) g w (by omega) (by omega) b1
    refine ⟨v', a1, ?_, ?_⟩
    · rw [a2, b2]
      constructor
      · intro h
        refine ⟨h.1.1, fun q hq hq2 i hi => ?_⟩
        rcases Nat.eq_or_lt_of_le hq with w | w
        · subst w; exact h.1.2 i (Nat.zero_le _) hi
        · exact h.2 q w hq2 i hi
      · intro h
        exact ⟨⟨h.1, fun i _ hi => h.2 p (Nat.le_refl _) (by omega) i hi⟩, fun q hq hq2 => h.2 q (by omega) hq2⟩
    · refine Eq.trans b3 ?_
      show L_M_same_98 g S 0 (nI z) w (nI p + 1) = (v', S)
      rw [nI_1]
      exact a3
theorem s98n (S : SM) {k : Int32} (hk : ¬ k = 0) (y v p : Int32) (g : Nat) : L_M_same_98 (g + 1) S k y v p = (v, S) := by
  rw [L_M_same_98, if_neg hk]
  split <;> rfl
theorem p10 (κ : SD → Int32 → Int32) (L : SD) (p : Int32) : ∀ (n j fuel : Nat), 3 = j + n → n < fuel → ((∀ i, j ≤ i → i < 3 → F_K_number (sD_ours L) p (nI i) = F_K_number (sD_theirs L) p (nI i)) → L_D_sameParts_10 κ fuel L p (nI j) = κ L p) ∧ ((¬ ∀ i, j ≤ i → i < 3 → F_K_number (sD_ours L) p (nI i) = F_K_number (sD_theirs L) p (nI i)) → L_D_sameParts_10 κ fuel L p (nI j) = 0) := by
  intro n
  induction n with
  | zero =>
    intro j fuel h1 h2
    obtain ⟨g, rfl⟩ : ∃ f, fuel = f + 1 := ⟨fuel - 1, by omega⟩
    rw [L_D_sameParts_10, if_pos (show (3 : Int32) ≤ nI j from nI_le (a := 3) (by omega) (by omega))]
    exact ⟨fun _ => rfl, fun h => absurd (fun i hi hi2 => by omega) h⟩
  | succ n ih =>
    intro j fuel h1 h2
    obtain ⟨g, rfl⟩ : ∃ f, fuel = f + 1 := ⟨fuel - 1, by omega⟩
    rw [L_D_sameParts_10, if_neg (show ¬ (3 : Int32) ≤ nI j from nI_ge (b := 3) (by omega) (by decide)), nI_1]
    obtain ⟨a1, a2⟩ := ih (j + 1) g (by omega) (by omega)
    by_cases q : F_K_number (sD_ours L) p (nI j) = F_K_number (sD_theirs L) p (nI j)
    · rw [if_pos q]
      refine ⟨fun h => a1 (fun i hi => h i (by omega)), fun h => a2 (fun h3 => h (fun i hi hi2 => ?_))⟩
      rcases Nat.eq_or_lt_of_le hi with w | w
      · rw [← w]; exact q
      · exact h3 i w hi2
    · rw [if_neg q]
      exact ⟨fun h => absurd (h j (Nat.le_refl _) (by omega)) q, fun _ => rfl⟩
theorem p2 (L : SD) : ∀ (n p fuel : Nat), 21 = p + n → n < fuel → (L_D_sameParts_2 fuel L (nI p) = 0 ∨ L_D_sameParts_2 fuel L (nI p) = 1) ∧ (L_D_sameParts_2 fuel L (nI p) = 1 ↔ ∀ q, p ≤ q → q < 21 → ∀ i, i < 3 → F_K_number (sD_ours L) (nI q) (nI i) = F_K_number (sD_theirs L) (nI q) (nI i)) := by
  intro n
  induction n with
  | zero =>
    intro p fuel h1 h2
    obtain ⟨g, rfl⟩ : ∃ f, fuel = f + 1 := ⟨fuel - 1, by omega⟩
    rw [L_D_sameParts_2, if_pos (show (21 : Int32) ≤ nI p from nI_le (a := 21) (by omega) (by omega))]
    exact ⟨Or.inr rfl, fun _ q hq hq2 => by omega, fun _ => rfl⟩
  | succ n ih =>
    intro p fuel h1 h2
    obtain ⟨g, rfl⟩ : ∃ f, fuel = f + 1 := ⟨fuel - 1, by omega⟩
    rw [L_D_sameParts_2, if_neg (show ¬ (21 : Int32) ≤ nI p from nI_ge (b := 21) (by omega) (by decide))]
    obtain ⟨b1, b2⟩ := p10 (fun S9 u1 => (L_D_sameParts_2 g S9 (u1 + 1))) L (nI p) 3 0 ((Int32.toInt 3 - Int32.toInt 0).toNat + 1) rfl (by decide)
    obtain ⟨a1, a2⟩ := ih (p + 1) g (by omega) (by omega)
    by_cases q : ∀ i, 0 ≤ i → i < 3 → F_K_number (sD_ours L) (nI p) (nI i) = F_K_number (sD_theirs L) (nI p) (nI i)
    · have e := b1 q
      rw [nI_1, show nI 0 = (0 : Int32) from rfl] at e
      rw [e]
      refine ⟨a1, a2.trans ⟨fun h r hr hr2 i hi => ?_, fun h r hr => h r (by omega)⟩⟩
      rcases Nat.eq_or_lt_of_le hr with w | w
      · rw [← w]; exact q i (Nat.zero_le _) hi
      · exact h r w hr2 i hi
    · have e := b2 q
      rw [show nI 0 = (0 : Int32) from rfl] at e
      rw [e]
      exact ⟨Or.inl rfl, fun h => absurd h (by decide), fun h => absurd (fun i _ hi => h p (Nat.le_refl _) (by omega) i hi) q⟩
theorem g2 (L : SD) : ∀ (n p fuel : Nat), 147 = p + n → n < fuel → (L_D_sameSigns_2 fuel L (nI p) = 0 ∨ L_D_sameSigns_2 fuel L (nI p) = 1) ∧ (L_D_sameSigns_2 fuel L (nI p) = 1 ↔ ∀ q, p ≤ q → q < 147 → F_K_sign (sD_ours L) (nI q) = F_K_sign (sD_theirs L) (nI q)) := by
  intro n
  induction n with
  | zero =>
    intro p fuel h1 h2
    obtain ⟨g, rfl⟩ : ∃ f, fuel = f + 1 := ⟨fuel - 1, by omega⟩
    rw [L_D_sameSigns_2, if_pos (show (147 : Int32) ≤ nI p from nI_le (a := 147) (by omega) (by omega))]
    exact ⟨Or.inr rfl, fun _ q hq hq2 => by omega, fun _ => rfl⟩
  | succ n ih =>
    intro p fuel h1 h2
    obtain ⟨g, rfl⟩ : ∃ f, fuel = f + 1 := ⟨fuel - 1, by omega⟩
    rw [L_D_sameSigns_2, if_neg (show ¬ (147 : Int32) ≤ nI p from nI_ge (b := 147) (by omega) (by decide)), nI_1]
    obtain ⟨a1, a2⟩ := ih (p + 1) g (by omega) (by omega)
    by_cases q : F_K_sign (sD_ours L) (nI p) = F_K_sign (sD_theirs L) (nI p)
    · rw [if_pos q]
      refine ⟨a1, a2.trans ⟨fun h r hr hr2 => ?_, fun h r hr => h r (by omega)⟩⟩
      rcases Nat.eq_or_lt_of_le hr with w | w
      · rw [← w]; exact q
      · exact h r w hr2
    · rw [if_neg q]
      exact ⟨Or.inl rfl, fun h => absurd h (by decide), fun h => absurd (h p (Nat.le_refl _) (by omega)) q⟩
theorem num_at {S : SK} {P q i : Nat} (hP : P ≤ 21) (h : sK_parts S = nI P) (hq : q < 21) (hi : i < 3) : F_K_number S (nI q) (nI i) = if q < P then sK_numbers S (3 * q + i) else -1 := by
  unfold F_K_number F_K_has
  rw [if_neg (nI_pos (by omega)), h]
  by_cases w : q < P
  · rw [if_pos w, if_neg (nI_ge (by omega) (by omega)), if_neg (show ¬ (21 : Int32) ≤ nI q from nI_ge (b := 21) (by omega) (by decide)), if_neg (show ¬ (1 : Int32) = 0 by decide), if_neg (nI_pos (by omega)), if_pos (show nI i < (3 : Int32) from nI_lt (b := 3) hi (by decide)), show (3 : Int32) = nI 3 from rfl, pk_mul, nI_add, nI_clamp (by omega), Nat.mul_comm]
  · rw [if_neg w, if_pos (nI_le (by omega) (by omega)), if_pos rfl]
theorem sign_at {S : SK} {u q : Nat} (hu : u ≤ 147) (h : sK_signsUsed S = nI u) (hq : q < 147) : F_K_sign S (nI q) = if q < u then sK_signs S q else -1 := by
  unfold F_K_sign
  rw [if_neg (nI_pos (by omega)), h]
  by_cases w : q < u
  · rw [if_pos w, if_neg (nI_ge (by omega) (by omega)), if_pos (show nI q < (147 : Int32) from nI_lt (b := 147) hq (by decide)), nI_clamp (by omega)]
  · rw [if_neg w, if_pos (nI_le (by omega) (by omega))]
theorem TT_cut (f : Nat → Nat) : ∀ n q, q < TT f n → ∃ p j, p < n ∧ j ≤ f p ∧ q = TT f p + j := by
  intro n
  induction n with
  | zero => intro q h; exact absurd h (Nat.not_lt_zero _)
  | succ n ih =>
    intro q h
    rw [TT] at h
    rcases Nat.lt_or_ge q (TT f n) with w | w
    · obtain ⟨p, j, h1, h2, h3⟩ := ih q w
      exact ⟨p, j, by omega, h2, h3⟩
    · exact ⟨n, q - TT f n, by omega, by omega, by omega⟩
theorem Rel.frm {k : Int32} {s i : Nat} {nm sg ts v t v' t' : Nat → Int32} {us : Int32} {s' : Nat} (hi : i ≤ 21) (h : Rel k s i nm sg ts us v t) (hF : Frm s' v t v' t') (hne : s < s' ∨ s' < s) : Rel k s i nm sg ts us v' t' := by
  obtain ⟨h1, h2, h3, h4⟩ := h
  have ev : ∀ p w, p < i → w < 3 → v' (3 * (21 * s + p) + w) = v (3 * (21 * s + p) + w) := fun p w hp hw => hF.1 _ (by omega)
  refine ⟨fun p w hp hw => (h1 p w hp hw).trans (ev p w hp hw).symm, fun hk => ?_, h3, fun p hp => ?_⟩
  · obtain ⟨f, g1, g2⟩ := h2 hk
    refine ⟨f, fun p hp => ?_, g2⟩
    obtain ⟨a1, a2, a3, a4, a5⟩ := g1 p hp
    refine ⟨a1, a2, a3, a4, fun j hj => ?_⟩
    rw [hF.2 _ (by omega)]
    exact a5 j hj
  · rw [ev p 1 hp (by decide), ev p 2 hp (by decide)]
    exact h4 p hp
theorem op_same {L : SD} {M : SM} (h : Big L M) (x : Int64) (k y : Int32) : ((F_D_same L x k y).1 = (F_M_same M x k y).1 ∧ Big (F_D_same L x k y).2 (F_M_same M x k y).2) ∧ (¬ F_M_can k y = 0 → k = 0 → ∀ i : Int32, ¬ i < 0 → ¬ y < i → zr (sM_values (F_M_draws (F_M_draws (uM_thrown M 0) 1 (sM_seed M) k y) 2 x k y) (Int32.toNatClampNeg (63 + 3 * i))) 0 6) := by
  unfold F_D_same F_M_same
  by_cases hc : F_D_canBeDrawn k y = 0
  · rw [if_pos hc, if_pos (show F_M_can k y = 0 by rw [← can_eq]; exact hc)]
    exact ⟨⟨rfl, h.thrown⟩, fun h2 => absurd (show F_M_can k y = 0 by rw [← can_eq]; exact hc) h2⟩
  · rw [if_neg hc, if_neg (show ¬ F_M_can k y = 0 by rw [← can_eq]; exact hc)]
    obtain ⟨hs, hD, hl, hN, hT⟩ := id h
    obtain ⟨hk0, P0, hP2, hP, hPM, hR0, hb⟩ := id hD
    obtain ⟨z, c1, nm1, sg1, ts1, us1, v1, t1, hz, rfl, hk, e1, m1, R1, Fr1⟩ := fill_rel (sD_ours L) (uM_thrown M 0) (sD_seed L) (s := 1) (by decide) hc
    obtain ⟨z2, c2, nm2, sg2, ts2, us2, v2, t2, hz2, ez, _, e2, m2, R2, Fr2⟩ := fill_rel (sD_theirs L) (mk (uM_thrown M 0) c1 v1 t1) x (s := 2) (by decide) hc
    have : z = z2 := (nI_eq (by omega) (by omega)).mp ez
    subst this
    have m1' : F_M_draws (uM_thrown M 0) 1 (sM_seed M) k (nI z) = mk (uM_thrown M 0) c1 v1 t1 := by rw [← hs]; exact m1
    have m2' : F_M_draws (mk (uM_thrown M 0) c1 v1 t1) 2 x k (nI z) = mk (mk (uM_thrown M 0) c1 v1 t1) c2 v2 t2 := m2
    rw [e1, e2, m1', m2']
    rw [mk_v, mk_t] at Fr2
    have R1' := R1.frm (by omega) Fr2 (by decide)
    have Fr1' : Frm 1 (sM_values M) (sM_title M) v1 t1 := Fr1
    have hR0' : Rel (sM_kind M) 0 P0 (sK_numbers (sD_drawn L)) (sK_signs (sD_drawn L)) (sK_titleStarts (sD_drawn L)) (sK_signsUsed (sD_drawn L)) v2 t2 := (hR0.frm hP2 Fr1' (by decide)).frm hP2 Fr2 (by decide)
    generalize hM2 : mk (mk (uM_thrown M 0) c1 v1 t1) c2 v2 t2 = M2
    generalize hL2 : uD_theirs (uD_ours L (nm1, sg1, ts1, c1, k, nI (z + 1), us1)) (nm2, sg2, ts2, c2, k, nI (z + 1), us2) = L2
    have ev : sM_values M2 = v2 := by rw [← hM2]; exact mk_v _ _ _ _
    have et : sM_title M2 = t2 := by rw [← hM2]; exact mk_t _ _ _ _
    have hB : Big L2 M2 := by
      rw [← hM2, ← hL2]
      exact ⟨hs, ⟨hk0, P0, hP2, hP, hPM, hR0', hb⟩, hl, hN, hT⟩
    have o1 : sK_parts (sD_ours L2) = nI (z + 1) := by rw [← hL2]; exact Eq.trans rfl rfl
    have o2 : sK_parts (sD_theirs L2) = nI (z + 1) := by rw [← hL2]; exact Eq.trans rfl rfl
    have o3 : sK_numbers (sD_ours L2) = nm1 := by rw [← hL2]; exact Eq.trans rfl rfl
    have o4 : sK_numbers (sD_theirs L2) = nm2 := by rw [← hL2]; exact Eq.trans rfl rfl
    have o5 : sK_signs (sD_ours L2) = sg1 := by rw [← hL2]; exact Eq.trans rfl rfl
    have o6 : sK_signs (sD_theirs L2) = sg2 := by rw [← hL2]; exact Eq.trans rfl rfl
    have o7 : sK_signsUsed (sD_ours L2) = us1 := by rw [← hL2]; exact Eq.trans rfl rfl
    have o8 : sK_signsUsed (sD_theirs L2) = us2 := by rw [← hL2]; exact Eq.trans rfl rfl
    clear hM2 hL2 e1 e2 m1 m2 m1' m2' R1 Fr1 Fr2 Fr1' hR0' hR0 hs hD hl hN hT
    obtain ⟨N1, T1, U1, _⟩ := R1'
    obtain ⟨N2, T2, U2, _⟩ := R2
    -- the class
    obtain ⟨a1, a2⟩ := p2 L2 21 0 ((Int32.toInt 21 - Int32.toInt 0).toNat + 1) rfl (by decide)
    obtain ⟨b1, b2⟩ := g2 L2 147 0 ((Int32.toInt 147 - Int32.toInt 0).toNat + 1) rfl (by decide)
    have d1 : F_D_sameParts L2 = 0 ∨ F_D_sameParts L2 = 1 := a1
    have d2 : F_D_sameParts L2 = 1 ↔ ∀ i, i < 3 * z + 3 → v2 (63 + i) = v2 (126 + i) := by
      refine Iff.trans a2 ⟨fun g i hi => ?_, fun g q _ hq i hi => ?_⟩
      · have hq : i / 3 < z + 1 := by omega
        have := g (i / 3) (Nat.zero_le _) (by omega) (i % 3) (by omega)
        rw [num_at (by omega) o1 (by omega) (by omega), num_at (by omega) o2 (by omega) (by omega), if_pos hq, if_pos hq, o3, o4, N1 _ _ hq (by omega), N2 _ _ hq (by omega)] at this
        rw [show 63 + i = 3 * (21 * 1 + i / 3) + i % 3 by omega, show 126 + i = 3 * (21 * 2 + i / 3) + i % 3 by omega]
        exact this
      · rw [num_at (by omega) o1 (by omega) (by omega), num_at (by omega) o2 (by omega) (by omega)]
        by_cases w : q < z + 1
        · rw [if_pos w, if_pos w, o3, o4, N1 _ _ w hi, N2 _ _ w hi]
          have := g (3 * q + i) (by omega)
          rw [show 3 * (21 * 1 + q) + i = 63 + (3 * q + i) by omega, show 3 * (21 * 2 + q) + i = 126 + (3 * q + i) by omega]
          exact this
        · rw [if_neg w, if_neg w]
    have d3 : F_D_sameSigns L2 = 0 ∨ F_D_sameSigns L2 = 1 := b1
    have d4 : F_D_sameSigns L2 = 1 ↔ ∀ q, q < 147 → F_K_sign (sD_ours L2) (nI q) = F_K_sign (sD_theirs L2) (nI q) := by
      refine Iff.trans b2 ⟨fun g q hq => g q (Nat.zero_le _) hq, fun g q _ hq => g q hq⟩
    -- the reference
    obtain ⟨w5, f1, f2, f3⟩ := s43 M2 k hz (3 * z + 3) 0 ((Int32.toInt ((3 * nI z) + 3) - Int32.toInt 0).toNat + 1) 1 (by omega) (by rw [i33]; exact fu_ok _ (by omega)) (Or.inr rfl)
    rw [show nI 0 = (0 : Int32) from rfl] at f3
    rw [f3]
    have f4 : w5 = 1 ↔ F_D_sameParts L2 = 1 := by
      rw [f2, d2, ev]
      exact ⟨fun g i hi => g.2 i (Nat.zero_le _) hi, fun g => ⟨rfl, fun i _ hi => g i hi⟩⟩
    have fin : ∀ {A : Int32}, (A = 0 ∨ A = 1) → (A = 1 ↔ F_D_sameParts L2 = 1 ∧ F_D_sameSigns L2 = 1) → ((if F_D_sameParts L2 = 0 then ((0 : Int32), L2) else if F_D_sameSigns L2 = 0 then (0, L2) else (1, L2)).1 = A ∧ Big (if F_D_sameParts L2 = 0 then ((0 : Int32), L2) else if F_D_sameSigns L2 = 0 then (0, L2) else (1, L2)).2 M2) := by
      intro A hA hA2
      rcases d1 with q | q
      · rw [if_pos q]
        refine ⟨?_, hB⟩
        rcases hA with w | w
        · exact w.symm
        · exact absurd ((hA2.mp w).1.symm.trans q) (by decide)
      · rw [if_neg (show ¬ F_D_sameParts L2 = 0 by rw [q]; decide)]
        rcases d3 with q3 | q3
        · rw [if_pos q3]
          refine ⟨?_, hB⟩
          rcases hA with w | w
          · exact w.symm
          · exact absurd ((hA2.mp w).2.symm.trans q3) (by decide)
        · rw [if_neg (show ¬ F_D_sameSigns L2 = 0 by rw [q3]; decide)]
          exact ⟨(hA2.mpr ⟨q, q3⟩).symm, hB⟩
    by_cases hk9 : k = 0
    · subst hk9
      obtain ⟨g1, G1, G2⟩ := T1 rfl
      obtain ⟨g2, H1, H2⟩ := T2 rfl
      have hval : ∀ p, p < z + 1 → g1 p ≤ 6 ∧ sM_values M2 (63 + 3 * p) = nI (g1 p) := fun p hp => by
        refine ⟨(G1 p hp).1, ?_⟩
        rw [ev, ← (G1 p hp).2.1]
        have := N1 p 0 hp (by decide)
        rw [show 63 + 3 * p = 3 * (21 * 1 + p) + 0 by omega, ← this]
        rfl
      obtain ⟨w6, k1, k2, k3⟩ := s98 M2 hz g1 hval (z + 1) 0 ((Int32.toInt (nI z) + 1 - Int32.toInt 0).toNat + 1) w5 (by omega) (by rw [nI_toInt (by omega), show Int32.toInt 0 = 0 from rfl]; omega) f1
      rw [show nI 0 = (0 : Int32) from rfl] at k3
      rw [k3]
      refine ⟨fin k1 ?_, fun _ _ i hi1 hi2 => ?_⟩
      · rw [k2, f4]
        refine and_congr_right fun hp => ?_
        rw [d4, et]
        have hv2 := d2.mp hp
        have hg : ∀ p, p < z + 1 → g1 p = g2 p := fun p hp => by
          have c1 := (G1 p hp).2.1
          have c2 := (H1 p hp).2.1
          have c3 := N1 p 0 hp (by decide)
          have c4 := N2 p 0 hp (by decide)
          have c5 := hv2 (3 * p) (by omega)
          rw [show 3 * (21 * 1 + p) + 0 = 63 + 3 * p by omega] at c3
          rw [show 3 * (21 * 2 + p) + 0 = 126 + 3 * p by omega] at c4
          have c6 : nI (g1 p) = nI (g2 p) := c1.symm.trans (c3.trans (c5.trans (c4.symm.trans c2)))
          exact (nI_eq (by have := (G1 p hp).1; omega) (by have := (H1 p hp).1; omega)).mp c6
        have hT1 : ∀ p, p ≤ z + 1 → TT g1 p = TT g2 p := fun p hp => TT_ext g1 g2 p (fun q hq => hg q (by omega))
        have hu : TT g1 (z + 1) ≤ 147 := by
          have := TT_le g1 (z + 1) (fun p hp => (G1 p hp).1)
          omega
        have u2 : us2 = nI (TT g1 (z + 1)) := by rw [H2, hT1 _ (Nat.le_refl _)]
        constructor
        · intro g q hq
          rw [sign_at hu (o7.trans G2) hq, sign_at hu (o8.trans u2) hq, o5, o6]
          by_cases w : q < TT g1 (z + 1)
          · rw [if_pos w, if_pos w]
            obtain ⟨p, j, i1, i2, rfl⟩ := TT_cut g1 (z + 1) q w
            have A := G1 p i1
            have B := H1 p i1
            rw [← hT1 p (by omega), ← hg p i1] at B
            rcases Nat.eq_or_lt_of_le i2 with r | r
            · rw [r, A.2.2.2.1, B.2.2.2.1]
            · rw [(A.2.2.2.2 j r).1, (B.2.2.2.2 j r).1]
              exact g p (Nat.zero_le _) i1 j r
          · rw [if_neg w, if_neg w]
        · intro g p _ i1 j r
          have A := G1 p i1
          have B := H1 p i1
          have hm := TT_mono g1 (z + 1) p i1
          rw [← hT1 p (by omega), ← hg p i1] at B
          have := g (TT g1 p + j) (by omega)
          rw [sign_at hu (o7.trans G2) (by omega), sign_at hu (o8.trans u2) (by omega), o5, o6, if_pos (by omega), if_pos (by omega), (A.2.2.2.2 j r).1, (B.2.2.2.2 j r).1] at this
          exact this
      · obtain ⟨i, rfl, q1, q2⟩ := zr_le hi1 hi2 (⟨z, rfl, Nat.zero_le _, hz⟩ : zr (nI z) 0 20) (by decide)
        have q3 : i < z + 1 := by
          rcases Nat.lt_or_ge z i with r | r
          · exact absurd (nI_lt r (by omega)) hi2
          · omega
        rw [i633 i (by omega), (hval i q3).2]
        exact ⟨g1 i, rfl, Nat.zero_le _, (hval i q3).1⟩
    · rw [s98n M2 hk9]
      refine ⟨fin f1 ?_, fun _ h9 => absurd h9 hk9⟩
      rw [f4]
      refine ⟨fun g => ⟨g, d4.mpr fun q hq => ?_⟩, fun g => g.1⟩
      rw [sign_at (u := 0) (by decide) (o7.trans (U1 hk9)) hq, sign_at (u := 0) (by decide) (o8.trans (U2 hk9)) hq, if_neg (Nat.not_lt_zero _), if_neg (Nat.not_lt_zero _)]
