def Kind (k : Int32) : Prop := k = 0 ∨ k = 1 ∨ k = 2 ∨ k = 3 ∨ k = 4 ∨ k = 5
theorem st_all (S : SK) (M : SM) {k : Int32} {s i z : Nat} (c : Int64) (nm sg ts : Nat → Int32) (us : Int32) (v t : Nat → Int32) (hk : Kind k) (hkS : sK_kind S = k) (hs : s ≤ 2) (hz : z ≤ 20) (hi : i < z + 1) (hP : sK_parts S = nI (z + 1)) (h : Rel k s i nm sg ts us v t) : Stp2 S M k s i z c nm sg ts us v t := by
  rcases hk with rfl | rfl | rfl | rfl | rfl | rfl
  · exact st_rec S M c nm sg ts us v t hkS hs hz hi hP h
  · exact st_file S M c nm sg ts us v t hkS hs hz hi hP h
  · exact st_pattern S M c nm sg ts us v t hkS hs hz hi hP h
  · exact st_line S M c nm sg ts us v t hkS hs hz hi hP h
  · exact st_reader S M c nm sg ts us v t hkS hs hz hi hP h
  · exact st_act S M c nm sg ts us v t hkS hs hz hi hP h
theorem loop_all (S : SK) (M : SM) {k : Int32} {s z : Nat} (hk : Kind k) (hkS : sK_kind S = k) (hs : s ≤ 2) (hz : z ≤ 20) (hP : sK_parts S = nI (z + 1)) : ∀ (r i f1 f2 : Nat) (c : Int64) (nm sg ts : Nat → Int32) (us : Int32) (v t : Nat → Int32), z + 1 = i + r → r < f1 → r < f2 → Rel k s i nm sg ts us v t →
    ∃ (c' : Int64) (nm' sg' ts' : Nat → Int32) (us' : Int32) (v' t' : Nat → Int32), L_K_fill_51 f1 (ks S c nm sg ts us) (nI i) = ks S c' nm' sg' ts' us' ∧ L_M_draws_24 f2 (mk M c v t) (nI s) k (nI z) (nI i) = mk M c' v' t' ∧ Rel k s (z + 1) nm' sg' ts' us' v' t' ∧ Frm s v t v' t' := by
  intro r
  induction r with
  | zero =>
    intro i f1 f2 c nm sg ts us v t h1 h2 h3 h
    obtain ⟨g1, rfl⟩ : ∃ f, f1 = f + 1 := ⟨f1 - 1, by omega⟩
    obtain ⟨g2, rfl⟩ : ∃ f, f2 = f + 1 := ⟨f2 - 1, by omega⟩
    have hi : i = z + 1 := by omega
    subst hi
    refine ⟨c, nm, sg, ts, us, v, t, ?_, ?_, h, Frm.rf⟩
    · rw [L_K_fill_51, ks_p, hP, if_pos (nI_le (Nat.le_refl _) (by omega))]
    · rw [L_M_draws_24, if_pos (nI_lt (by omega) (by omega))]
  | succ r ih =>
    intro i f1 f2 c nm sg ts us v t h1 h2 h3 h
    obtain ⟨g1, rfl⟩ : ∃ f, f1 = f + 1 := ⟨f1 - 1, by omega⟩
    obtain ⟨g2, rfl⟩ : ∃ f, f2 = f + 1 := ⟨f2 - 1, by omega⟩
    obtain ⟨c1, nm1, sg1, ts1, us1, v1, t1, e1, e2, h4, h5⟩ := st_all S M c nm sg ts us v t hk hkS hs hz (show i < z + 1 by omega) hP h
    obtain ⟨c2, nm2, sg2, ts2, us2, v2, t2, e3, e4, h6, h7⟩ := ih (i + 1) g1 g2 c1 nm1 sg1 ts1 us1 v1 t1 (by omega) (by omega) (by omega) h4
    refine ⟨c2, nm2, sg2, ts2, us2, v2, t2, ?_, ?_, h6, h5.tr h7⟩
    · rw [L_K_fill_51, ks_p, hP, if_neg (nI_ge (by omega) (by omega)), e1, nI_1, e3]
    · rw [L_M_draws_24, if_neg (nI_nlt (by omega) (by omega)), e2, nI_1, e4]
theorem can_eq (x y : Int32) : F_D_canBeDrawn x y = F_M_can x y := by
  unfold F_D_canBeDrawn F_M_can F_M_in
  by_cases h1 : x < 0
  · simp only [if_pos h1]; rfl
  · by_cases h2 : 5 < x
    · simp only [if_neg h1, if_pos h2]; rfl
    · by_cases h3 : y < 0
      · simp only [if_neg h1, if_neg h2, if_pos h3]; rfl
      · by_cases h4 : 20 < y
        · simp only [if_neg h1, if_neg h2, if_neg h3, if_pos h4]; rfl
        · simp only [if_neg h1, if_neg h2, if_neg h3, if_neg h4]; rfl
theorem can_ok {x y : Int32} (h : ¬ F_D_canBeDrawn x y = 0) : Kind x ∧ ∃ z, z ≤ 20 ∧ y = nI z := by
  unfold F_D_canBeDrawn at h
  by_cases h1 : x < 0
  · rw [if_pos h1] at h; exact absurd rfl h
  · rw [if_neg h1] at h
    by_cases h2 : 5 < x
    · rw [if_pos h2] at h; exact absurd rfl h
    · rw [if_neg h2] at h
      by_cases h3 : y < 0
      · rw [if_pos h3] at h; exact absurd rfl h
      · rw [if_neg h3] at h
        by_cases h4 : 20 < y
        · rw [if_pos h4] at h; exact absurd rfl h
        · obtain ⟨j, e, _, h5⟩ := zr_le h1 h2 (zr_k 5 rfl) (by decide)
          obtain ⟨z, e2, _, h6⟩ := zr_le h3 h4 (zr_k 20 rfl) (by decide)
          refine ⟨?_, z, h6, e2⟩
          rw [e]
          rcases (show j = 0 ∨ j = 1 ∨ j = 2 ∨ j = 3 ∨ j = 4 ∨ j = 5 by omega) with rfl | rfl | rfl | rfl | rfl | rfl
          · exact Or.inl rfl
          · exact Or.inr (Or.inl rfl)
          · exact Or.inr (Or.inr (Or.inl rfl))
          · exact Or.inr (Or.inr (Or.inr (Or.inl rfl)))
          · exact Or.inr (Or.inr (Or.inr (Or.inr (Or.inl rfl))))
          · exact Or.inr (Or.inr (Or.inr (Or.inr (Or.inr rfl))))
/-- the two drawings of a kind and size by a seed -/
theorem fill_rel (S : SK) (M : SM) (x : Int64) {k y : Int32} {s : Nat} (hs : s ≤ 2) (hc : ¬ F_D_canBeDrawn k y = 0) : ∃ (z : Nat) (c' : Int64) (nm sg ts : Nat → Int32) (us : Int32) (v t : Nat → Int32), z ≤ 20 ∧ y = nI z ∧ Kind k ∧ F_K_fill S x k y = (nm, sg, ts, c', k, nI (z + 1), us) ∧ F_M_draws M (nI s) x k y = mk M c' v t ∧ Rel k s (z + 1) nm sg ts us v t ∧ Frm s (sM_values M) (sM_title M) v t := by
  obtain ⟨hk, z, hz, rfl⟩ := can_ok hc
  have h0 : Rel k s 0 (sK_numbers S) (sK_signs S) (sK_titleStarts S) 0 (sM_values M) (sM_title M) :=
    ⟨fun p w h => absurd h (Nat.not_lt_zero _), fun _ => ⟨fun _ => 0, fun p h => absurd h (Nat.not_lt_zero _), rfl⟩, fun _ => rfl, fun p h => absurd h (Nat.not_lt_zero _)⟩
  unfold F_K_fill F_M_draws
  rw [if_neg hc]
  generalize (x + (1000003 * (Int32.toInt64 k))) + (101 * (Int32.toInt64 (nI z))) = c0
  have e1 : uK_signsUsed (uK_parts (uK_kind (uK_chance S c0) k) (nI z + 1)) 0 = ks (uK_parts (uK_kind S k) (nI (z + 1))) c0 (sK_numbers S) (sK_signs S) (sK_titleStarts S) 0 := by
    rw [← nI_1]
    rfl
  have e2 : uM_chance M c0 = mk M c0 (sM_values M) (sM_title M) := Eq.trans rfl rfl
  rw [e1, e2, ks_p]
  have hf1 : z + 1 < (Int32.toInt (sK_parts (uK_parts (uK_kind S k) (nI (z + 1)))) - Int32.toInt 0).toNat + 1 := fu_ok (z + 1) (by omega)
  have hf2 : z + 1 < (Int32.toInt (nI z) + 1 - Int32.toInt 0).toNat + 1 := by
    have e0 : Int32.toInt 0 = 0 := by decide
    rw [nI_toInt (by omega), e0]
    omega
  generalize (Int32.toInt (sK_parts (uK_parts (uK_kind S k) (nI (z + 1)))) - Int32.toInt 0).toNat + 1 = f1 at hf1 ⊢
  generalize (Int32.toInt (nI z) + 1 - Int32.toInt 0).toNat + 1 = f2 at hf2 ⊢
  obtain ⟨c', nm', sg', ts', us', v', t', g1, g2, g3, g4⟩ := loop_all (uK_parts (uK_kind S k) (nI (z + 1))) M (s := s) (z := z) hk rfl hs hz rfl (z + 1) 0 f1 f2 c0 (sK_numbers S) (sK_signs S) (sK_titleStarts S) 0 (sM_values M) (sM_title M) (by omega) hf1 hf2 h0
  exact ⟨z, c', nm', sg', ts', us', v', t', hz, rfl, hk, g1, g2, g3, g4⟩
