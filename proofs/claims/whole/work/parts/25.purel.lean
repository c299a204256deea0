-- rows, verdicts
theorem and_sub (x y : Int32) : x &&& (y ^^^ (-1)) = 0 ↔ x &&& y = x := by
  rw [← Int32.toBitVec_inj, ← Int32.toBitVec_inj, Int32.toBitVec_and, Int32.toBitVec_and, Int32.toBitVec_xor, show (-1 : Int32).toBitVec = BitVec.allOnes 32 by decide, show (0 : Int32).toBitVec = 0#32 by decide]
  generalize x.toBitVec = a
  generalize y.toBitVec = b
  constructor
  · intro h
    apply BitVec.eq_of_getLsbD_eq
    intro j hj
    have h1 := congrArg (fun z : BitVec 32 => z.getLsbD j) h
    simp only [BitVec.getLsbD_and, BitVec.getLsbD_xor, BitVec.getLsbD_allOnes, BitVec.getLsbD_zero, decide_eq_true hj] at h1
    rw [BitVec.getLsbD_and]
    revert h1
    cases a.getLsbD j <;> cases b.getLsbD j <;> simp
  · intro h
    apply BitVec.eq_of_getLsbD_eq
    intro j hj
    have h1 := congrArg (fun z : BitVec 32 => z.getLsbD j) h
    simp only [BitVec.getLsbD_and] at h1
    rw [BitVec.getLsbD_and, BitVec.getLsbD_xor, BitVec.getLsbD_allOnes, BitVec.getLsbD_zero, decide_eq_true hj]
    revert h1
    cases a.getLsbD j <;> cases b.getLsbD j <;> simp
/-- some row from k on is within the set -/
def wi (r : Nat → Int32) (x : Int32) : Nat → Nat → Prop
  | 0, _ => False
  | n + 1, k => r k &&& x = r k ∨ wi r x n (k + 1)
/-- no row from k on is torn by the set -/
def un (r : Nat → Int32) (x : Int32) : Nat → Nat → Prop
  | 0, _ => True
  | n + 1, k => (r k &&& x = 0 ∨ r k &&& x = r k) ∧ un r x n (k + 1)
theorem wi_ext {r r' : Nat → Int32} {x : Int32} {o : Nat} : ∀ n k, (∀ j, j < k + n → r j = r' (o + j)) → (wi r x n k ↔ wi r' x n (o + k)) := by
  intro n
  induction n with
  | zero => intro k _; exact Iff.rfl
  | succ n ih =>
    intro k h
    rw [wi, wi, h k (by omega), ih (k + 1) (fun j hj => h j (by omega)), show o + (k + 1) = o + k + 1 by omega]
theorem un_ext {r r' : Nat → Int32} {x : Int32} {o : Nat} : ∀ n k, (∀ j, j < k + n → r j = r' (o + j)) → (un r x n k ↔ un r' x n (o + k)) := by
  intro n
  induction n with
  | zero => intro k _; exact Iff.rfl
  | succ n ih =>
    intro k h
    rw [un, un, h k (by omega), ih (k + 1) (fun j hj => h j (by omega)), show o + (k + 1) = o + k + 1 by omega]
theorem within_eq (T : SR) (x : Int32) {a : Nat} (ha : a ≤ 6) (hT : sR_told T = nI a) : ∀ (n k fuel : Nat), a = k + n → n < fuel → (L_R_oneIsWithin_2 fuel T x (nI k) = 0 ↔ ¬ wi (sR_rows T) x n k) := by
  intro n
  induction n with
  | zero =>
    intro k fuel h1 h2
    obtain ⟨g, rfl⟩ : ∃ f, fuel = f + 1 := ⟨fuel - 1, by omega⟩
    rw [L_R_oneIsWithin_2, hT, if_pos (nI_le (by omega) (by omega)), wi]
    simp
  | succ n ih =>
    intro k fuel h1 h2
    obtain ⟨g, rfl⟩ : ∃ f, fuel = f + 1 := ⟨fuel - 1, by omega⟩
    rw [L_R_oneIsWithin_2, hT, if_neg (nI_ge (by omega) (by omega)), if_neg (show ¬ (6 : Int32) ≤ nI k from nI_ge (b := 6) (by omega) (by decide)), nI_clamp (by omega), wi]
    by_cases h : sR_rows T k &&& x = sR_rows T k
    · rw [if_pos h]
      simp [h]
    · rw [if_neg h, nI_1, ih (k + 1) g (by omega) (by omega)]
      simp [h]
theorem torn_eq (T : SR) (x : Int32) {a : Nat} (ha : a ≤ 6) (hT : sR_told T = nI a) : ∀ (n k fuel : Nat), a = k + n → n < fuel → (L_R_oneIsTornBy_2 fuel T x (nI k) = 0 ↔ un (sR_rows T) x n k) := by
  intro n
  induction n with
  | zero =>
    intro k fuel h1 h2
    obtain ⟨g, rfl⟩ : ∃ f, fuel = f + 1 := ⟨fuel - 1, by omega⟩
    rw [L_R_oneIsTornBy_2, hT, if_pos (nI_le (by omega) (by omega)), un]
    simp
  | succ n ih =>
    intro k fuel h1 h2
    obtain ⟨g, rfl⟩ : ∃ f, fuel = f + 1 := ⟨fuel - 1, by omega⟩
    rw [L_R_oneIsTornBy_2, hT, if_neg (nI_ge (by omega) (by omega)), if_neg (show ¬ (6 : Int32) ≤ nI k from nI_ge (b := 6) (by omega) (by decide)), nI_clamp (by omega), un, nI_1]
    by_cases h : sR_rows T k &&& x = 0
    · rw [if_pos h, ih (k + 1) g (by omega) (by omega)]
      simp [h]
    · rw [if_neg h]
      by_cases h3 : sR_rows T k &&& x = sR_rows T k
      · rw [if_pos h3, ih (k + 1) g (by omega) (by omega)]
        simp [h3]
      · rw [if_neg h3]
        simp [h, h3]
theorem st43 (M : SM) (x : Int32) {b : Nat} (hb : b ≤ 6) (hT : sM_together M = nI b) : ∀ (n k fuel : Nat) (v : Int32), b = k + n → n < fuel → (v = 0 ∨ v = 1) → (L_M_stays_43 fuel M x v (nI k) = 0 ↔ ¬ (v = 1 ∧ un (sM_rows M) x n (6 + k))) := by
  intro n
  induction n with
  | zero =>
    intro k fuel v h1 h2 hv
    obtain ⟨g, rfl⟩ : ∃ f, fuel = f + 1 := ⟨fuel - 1, by omega⟩
    rw [L_M_stays_43, hT, if_pos (nI_le (by omega) (by omega)), un]
    rcases hv with rfl | rfl <;> simp
  | succ n ih =>
    intro k fuel v h1 h2 hv
    obtain ⟨g, rfl⟩ : ∃ f, fuel = f + 1 := ⟨fuel - 1, by omega⟩
    have e6 : Int32.toNatClampNeg (6 + nI k) = 6 + k := by rw [show (6 : Int32) = nI 6 from rfl, nI_add, nI_clamp (by omega)]
    rw [L_M_stays_43, hT, if_neg (nI_ge (by omega) (by omega)), e6, un, nI_1]
    rcases hv with rfl | rfl
    · rw [if_pos rfl, ih (k + 1) g 0 (by omega) (by omega) (Or.inl rfl)]
      simp
    · rw [if_neg (show ¬ (1 : Int32) = 0 by decide)]
      by_cases h : sM_rows M (6 + k) &&& x = 0
      · rw [if_pos h, ih (k + 1) g 1 (by omega) (by omega) (Or.inr rfl), show 6 + (k + 1) = 6 + k + 1 by omega]
        simp [h]
      · rw [if_neg h]
        by_cases h3 : sM_rows M (6 + k) &&& x = sM_rows M (6 + k)
        · rw [if_pos h3, ih (k + 1) g 1 (by omega) (by omega) (Or.inr rfl), show 6 + (k + 1) = 6 + k + 1 by omega]
          simp [h3]
        · rw [if_neg h3, ih (k + 1) g 0 (by omega) (by omega) (Or.inl rfl)]
          simp [h, h3]
theorem st4 (M : SM) (x : Int32) {a b : Nat} (ha : a ≤ 6) (hb : b ≤ 6) (hN : sM_needed M = nI a) (hT : sM_together M = nI b) : ∀ (n k fuel : Nat) (v : Int32), a = k + n → n < fuel → (v = 0 ∨ v = 1) → (L_M_stays_4 fuel M x v (nI k) = 0 ↔ ¬ ((v = 1 ∨ wi (sM_rows M) x n k) ∧ un (sM_rows M) x b 6)) := by
  intro n
  induction n with
  | zero =>
    intro k fuel v h1 h2 hv
    obtain ⟨g, rfl⟩ : ∃ f, fuel = f + 1 := ⟨fuel - 1, by omega⟩
    have hfu : b < (Int32.toInt (sM_together M) - Int32.toInt 0).toNat + 1 := by rw [hT]; exact fu_ok b (by omega)
    rw [L_M_stays_4, hN, if_pos (nI_le (by omega) (by omega)), wi]
    generalize (Int32.toInt (sM_together M) - Int32.toInt 0).toNat + 1 = fl at hfu ⊢
    have := st43 M x hb hT b 0 fl v (by omega) hfu hv
    rw [show 6 + 0 = 6 from rfl] at this
    simp only [or_false]
    exact this
  | succ n ih =>
    intro k fuel v h1 h2 hv
    obtain ⟨g, rfl⟩ : ∃ f, fuel = f + 1 := ⟨fuel - 1, by omega⟩
    rw [L_M_stays_4, hN, if_neg (nI_ge (by omega) (by omega)), nI_clamp (by omega), wi, nI_1]
    rcases hv with rfl | rfl
    · rw [if_pos rfl]
      by_cases h : sM_rows M k &&& (x ^^^ (-1)) = 0
      · rw [if_pos h, ih (k + 1) g 1 (by omega) (by omega) (Or.inr rfl)]
        have h' := (and_sub _ _).mp h
        simp [h']
      · rw [if_neg h, ih (k + 1) g 0 (by omega) (by omega) (Or.inl rfl)]
        have h' : ¬ sM_rows M k &&& x = sM_rows M k := fun z => h ((and_sub _ _).mpr z)
        simp [h']
    · rw [if_neg (show ¬ (1 : Int32) = 0 by decide), ih (k + 1) g 1 (by omega) (by omega) (Or.inr rfl)]
      simp
theorem bi_staysFor (L : SD) (x : Int32) : F_D_staysFor L x = 0 ∨ F_D_staysFor L x = 1 := by
  unfold F_D_staysFor
  (repeat' split) <;> simp
/-- the verdicts agree -/
theorem stays_eq {L : SD} {M : SM} (h1 : Rows2 (sD_needed L) (sM_needed M) (sM_rows M) 0) (h2 : Rows2 (sD_together L) (sM_together M) (sM_rows M) 6) (x : Int32) : F_D_staysFor L x = F_M_stays M x := by
  obtain ⟨a, ha, e1, e2, e3⟩ := h1
  obtain ⟨b, hb, g1, g2, g3⟩ := h2
  have w1 : F_R_oneIsWithin (sD_needed L) x = 0 ↔ ¬ wi (sM_rows M) x a 0 := by
    unfold F_R_oneIsWithin
    have := within_eq (sD_needed L) x ha e1 a 0 _ (by omega) (show a < (Int32.toInt (sR_told (sD_needed L)) - Int32.toInt 0).toNat + 1 by rw [e1]; exact fu_ok a (by omega))
    rw [show (0 : Int32) = nI 0 from rfl] at this ⊢
    rw [this, wi_ext (r' := sM_rows M) (o := 0) a 0 (fun j hj => e3 j (by omega))]
  have w2 : F_R_oneIsTornBy (sD_together L) x = 0 ↔ un (sM_rows M) x b 6 := by
    unfold F_R_oneIsTornBy
    have := torn_eq (sD_together L) x hb g1 b 0 _ (by omega) (show b < (Int32.toInt (sR_told (sD_together L)) - Int32.toInt 0).toNat + 1 by rw [g1]; exact fu_ok b (by omega))
    rw [show (0 : Int32) = nI 0 from rfl] at this ⊢
    rw [this, un_ext (r' := sM_rows M) (o := 6) b 0 (fun j hj => g3 j (by omega))]
  have w3 : F_M_stays M x = 0 ↔ ¬ (wi (sM_rows M) x a 0 ∧ un (sM_rows M) x b 6) := by
    unfold F_M_stays
    have := st4 M x ha hb e2 g2 a 0 _ 0 (by omega) (show a < (Int32.toInt (sM_needed M) - Int32.toInt 0).toNat + 1 by rw [e2]; exact fu_ok a (by omega)) (Or.inl rfl)
    have e : ((0 : Int32) = 1 ∨ wi (sM_rows M) x a 0) ↔ wi (sM_rows M) x a 0 := ⟨fun q => q.resolve_left (by decide), Or.inr⟩
    rw [e] at this
    exact this
  have w4 : F_D_staysFor L x = 0 ↔ F_M_stays M x = 0 := by
    rw [w3]
    unfold F_D_staysFor
    by_cases q1 : F_R_oneIsWithin (sD_needed L) x = 0
    · rw [if_pos q1]
      have := w1.mp q1
      simp [this]
    · rw [if_neg q1]
      have q1' : wi (sM_rows M) x a 0 := Classical.byContradiction fun z => q1 (w1.mpr z)
      by_cases q2 : F_R_oneIsTornBy (sD_together L) x = 0
      · rw [if_pos q2]
        have := w2.mp q2
        simp [this, q1']
      · rw [if_neg q2]
        have : ¬ un (sM_rows M) x b 6 := fun z => q2 (w2.mpr z)
        simp [this]
  rcases bi_staysFor L x with q | q
  · rw [q]; exact (w4.mp q).symm
  · rcases bi_stays M x with z | z
    · have := w4.mpr z
      rw [q] at this
      exact absurd this (by decide)
    · rw [q, z]
