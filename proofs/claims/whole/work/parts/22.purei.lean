-- between calls
def Rows2 (T : SR) (told : Int32) (r : Nat → Int32) (o : Nat) : Prop := ∃ a : Nat, a ≤ 6 ∧ sR_told T = nI a ∧ told = nI a ∧ ∀ j, j < a → sR_rows T j = r (o + j)
def Drw (S : SK) (M : SM) : Prop := sK_kind S = sM_kind M ∧ ∃ P : Nat, P ≤ 21 ∧ sK_parts S = nI P ∧ sM_parts M = nI P ∧ Rel (sM_kind M) 0 P (sK_numbers S) (sK_signs S) (sK_titleStarts S) (sK_signsUsed S) (sM_values M) (sM_title M) ∧ ∀ j, P ≤ j → (sM_left M).toBitVec.getLsbD j = false
def Big (L : SD) (M : SM) : Prop := sD_seed L = sM_seed M ∧ Drw (sD_drawn L) M ∧ sD_leftParts L = sM_left M ∧ Rows2 (sD_needed L) (sM_needed M) (sM_rows M) 0 ∧ Rows2 (sD_together L) (sM_together M) (sM_rows M) 6
theorem Big.thrown {L : SD} {M : SM} (h : Big L M) : Big L (uM_thrown M 0) := h
theorem Drw.zr {S : SK} {M : SM} (h : Drw S M) : zr (sM_parts M) 0 21 := by
  obtain ⟨_, P, h1, _, h2, _⟩ := h
  exact ⟨P, h2, Nat.zero_le _, h1⟩
theorem Rows2.zr {T : SR} {told : Int32} {r : Nat → Int32} {o : Nat} (h : Rows2 T told r o) : zr told 0 6 := by
  obtain ⟨a, h1, _, h2, _⟩ := h
  exact ⟨a, h2, Nat.zero_le _, h1⟩
section OPS
variable {S : SK} {M : SM} {P : Nat}
theorem has_lo {x : Int32} (h : x < 0) : F_K_has S x = 0 := by unfold F_K_has; rw [if_pos h]
theorem has_hi (hP : sK_parts S = nI P) {x : Int32} (h : nI P ≤ x) : F_K_has S x = 0 := by
  unfold F_K_has
  split
  · rfl
  · rw [hP, if_pos h]
theorem has_in (hP : sK_parts S = nI P) (hP2 : P ≤ 21) {p : Nat} (h : p < P) : F_K_has S (nI p) = 1 := by
  have := ks_has1 S (sK_chance S) (sK_numbers S) (sK_signs S) (sK_titleStarts S) (sK_signsUsed S) hP hP2 h
  rw [ks_eta] at this
  exact this
theorem num_in (hP : sK_parts S = nI P) (hP2 : P ≤ 21) {p w : Nat} (h : p < P) (hw : w < 3) : F_K_number S (nI p) (nI w) = sK_numbers S (3 * p + w) := by
  have := ks_num S (sK_chance S) (sK_numbers S) (sK_signs S) (sK_titleStarts S) (sK_signsUsed S) hP hP2 h hw
  rw [ks_eta] at this
  exact this
theorem isP_lo {x : Int32} (h : x < 0) : F_M_isPart M x = 0 := by unfold F_M_isPart F_M_in; rw [if_pos h]
theorem isP_hi (hP : sM_parts M = nI P) (hP2 : P ≤ 21) {x : Int32} (h : nI P ≤ x) : F_M_isPart M x = 0 := by
  unfold F_M_isPart F_M_in
  rw [hP]
  split
  · rfl
  · rw [if_pos]
    have h1 := Int32.le_iff_toInt_le.mp h
    rw [Int32.lt_iff_toInt_lt, show (1 : Int32) = nI 1 from rfl, pk_sub_toInt (by omega) (by decide)]
    rw [nI_toInt (by omega)] at h1
    omega
theorem isP_in (hP : sM_parts M = nI P) (hP2 : P ≤ 21) {p : Nat} (h : p < P) : F_M_isPart M (nI p) = 1 := by
  unfold F_M_isPart F_M_in
  rw [hP, if_neg (nI_pos (by omega)), if_neg]
  rw [Int32.lt_iff_toInt_lt, show (1 : Int32) = nI 1 from rfl, pk_sub_toInt (by omega) (by decide), nI_toInt (by omega)]
  omega
theorem nv_eq {k : Int32} {sg ts v t : Nat → Int32} {us : Int32} (hR : Rel k 0 P (sK_numbers S) sg ts us v t) (hP : sK_parts S = nI P) (hP2 : P ≤ 21) {p w : Nat} (h : p < P) (hw : w < 3) : F_K_number S (nI p) (nI w) = v (3 * p + w) := by
  rw [num_in hP hP2 h hw, hR.1 p w h hw, show 3 * (21 * 0 + p) + w = 3 * p + w by omega]
theorem ix3 {p w : Nat} (h : p ≤ 21) (hw : w < 3) : Int32.toNatClampNeg (3 * nI p + nI w) = 3 * p + w := by
  rw [show (3 : Int32) = nI 3 from rfl, pk_mul, nI_add, nI_clamp (by omega)]
theorem ix30 {p : Nat} (h : p ≤ 21) : Int32.toNatClampNeg (3 * nI p) = 3 * p := by
  rw [show (3 : Int32) = nI 3 from rfl, pk_mul, nI_clamp (by omega)]
end OPS
theorem op_part {L : SD} {M : SM} (h : Big L M) (x y : Int32) : F_D_part L x y = (F_M_part M x y).1 ∧ Big L (F_M_part M x y).2 := by
  obtain ⟨_, P, hP2, hP, hPM, hR, _⟩ := h.2.1
  have hPM' : sM_parts (uM_thrown M 0) = nI P := hPM
  unfold F_D_part F_M_part
  rcases pk_ix x (show P < 2 ^ 31 by omega) with q | q | ⟨p, hp, rfl⟩
  · rw [if_pos (isP_lo q)]
    refine ⟨?_, h.thrown⟩
    unfold F_K_number
    rw [if_pos (has_lo q)]
  · rw [if_pos (isP_hi hPM' hP2 q)]
    refine ⟨?_, h.thrown⟩
    unfold F_K_number
    rw [if_pos (has_hi hP q)]
  · rw [if_neg (show ¬ F_M_isPart (uM_thrown M 0) (nI p) = 0 by rw [isP_in hPM' hP2 hp]; decide)]
    rcases pk_ix y (show 3 < 2 ^ 31 by decide) with q | q | ⟨w, hw, rfl⟩
    · have e : F_M_in y 0 2 = 0 := by unfold F_M_in; rw [if_pos q]
      rw [if_pos e]
      refine ⟨?_, h.thrown⟩
      unfold F_K_number
      rw [has_in hP hP2 hp, if_neg (by decide), if_pos q]
    · have q1 := Int32.le_iff_toInt_le.mp q
      rw [nI_toInt (by decide)] at q1
      have e : F_M_in y 0 2 = 0 := by
        unfold F_M_in
        split
        · rfl
        · rw [if_pos]
          rw [Int32.lt_iff_toInt_lt, show (2 : Int32) = nI 2 from rfl, nI_toInt (by decide)]
          omega
      rw [if_pos e]
      refine ⟨?_, h.thrown⟩
      unfold F_K_number
      rw [has_in hP hP2 hp, if_neg (by decide)]
      split
      · rfl
      · rw [if_neg]
        rw [Int32.lt_iff_toInt_lt, show (3 : Int32) = nI 3 from rfl, nI_toInt (by decide)]
        omega
    · have e : F_M_in (nI w) 0 2 = 1 := by
        unfold F_M_in
        rw [if_neg (nI_pos (by omega)), if_neg (show ¬ (2 : Int32) < nI w from nI_nlt (b := w) (a := 2) (by omega) (by decide))]
      rw [e, if_neg (by decide)]
      refine ⟨?_, h.thrown⟩
      rw [nv_eq hR hP hP2 hp hw, ix3 (by omega) hw]
theorem op_letter0 {M : SM} {P n : Nat} {nm sg ts : Nat → Int32} {us : Int32} (hP2 : P ≤ 21) (hPM : sM_parts M = nI P) (hk : sM_kind M = 0) (f : Nat → Nat) (hf : ∀ p, p < P → f p ≤ 6 ∧ sM_values M (3 * p) = nI (f p) ∧ sg (TT f p + f p) = 10 ∧ ∀ j, j < f p → sg (TT f p + j) = sM_title M (6 * p + j)) (hn : n < 2 ^ 31) (x : Int32) : ∀ (r p fuel : Nat), P = p + r → r < fuel → TT f p ≤ n → L_M_letter_9 fuel M x (nI (n - TT f p)) (nI p) = (if n < TT f P then sg n else -1, M) := by
  intro r
  induction r with
  | zero =>
    intro p fuel h1 h2 h3
    obtain ⟨g, rfl⟩ : ∃ f, fuel = f + 1 := ⟨fuel - 1, by omega⟩
    have : p = P := by omega
    subst this
    rw [L_M_letter_9, hPM, if_pos (nI_le (Nat.le_refl _) (by omega)), if_neg (by omega)]
  | succ r ih =>
    intro p fuel h1 h2 h3
    obtain ⟨g, rfl⟩ : ∃ f, fuel = f + 1 := ⟨fuel - 1, by omega⟩
    obtain ⟨a1, a2, a3, a4⟩ := hf p (by omega)
    have hmo := TT_mono f P p (by omega)
    have e6 : ∀ j, j < f p → Int32.toNatClampNeg (6 * nI p + nI j) = 6 * p + j := fun j hj => by
      rw [show (6 : Int32) = nI 6 from rfl, pk_mul, nI_add, nI_clamp (by omega)]
    rw [L_M_letter_9, hPM, if_neg (nI_ge (by omega) (by omega)), if_pos hk, if_neg (nI_pos (by omega)), ix30 (by omega), a2]
    rcases Nat.lt_or_ge (f p) (n - TT f p) with q | q
    · rw [if_pos (nI_lt q (by omega)), nI_1, pk_sub (by omega), nI_1, show n - TT f p - (f p + 1) = n - TT f (p + 1) by rw [TT]; omega]
      exact ih (p + 1) g (by omega) (by omega) (by rw [TT]; omega)
    · rw [if_neg (nI_nlt q (by omega))]
      by_cases hq : n - TT f p = f p
      · rw [hq, if_pos rfl, if_pos (by omega), ← a3, show TT f p + f p = n by omega]
      · rw [if_neg (fun z => hq ((nI_eq (by omega) (by omega)).mp z)), e6 _ (by omega), if_pos (by omega), ← a4 _ (by omega), show TT f p + (n - TT f p) = n by omega]
theorem op_letter {L : SD} {M : SM} (h : Big L M) (x : Int32) : F_D_letter L x = (F_M_letter M x).1 ∧ Big L (F_M_letter M x).2 := by
  obtain ⟨hk, P, hP2, hP, hPM, hR, _⟩ := h.2.1
  have hPM' : sM_parts (uM_thrown M 0) = nI P := hPM
  have hfu : P < (Int32.toInt (sM_parts (uM_thrown M 0)) - Int32.toInt 0).toNat + 1 := by
    rw [hPM']; exact fu_ok P (by omega)
  unfold F_D_letter F_M_letter
  generalize (Int32.toInt (sM_parts (uM_thrown M 0)) - Int32.toInt 0).toNat + 1 = fuel at hfu ⊢
  by_cases h0 : sM_kind M = 0
  · obtain ⟨f, h1, h2⟩ := hR.2.1 h0
    have hT := TT_le f P (fun p hp => (h1 p hp).1)
    by_cases hx : x < 0
    · have e : L_M_letter_9 fuel (uM_thrown M 0) x x 0 = (-1, uM_thrown M 0) := by
        obtain ⟨g, rfl⟩ : ∃ f, fuel = f + 1 := ⟨fuel - 1, by omega⟩
        rw [L_M_letter_9]
        split
        · rfl
        · rw [if_pos (show sM_kind (uM_thrown M 0) = 0 from h0)]
          first | done | rfl | rw [if_pos hx]
      rw [e]
      refine ⟨?_, h.thrown⟩
      unfold F_K_sign
      rw [if_pos hx]
    · obtain ⟨n, hn, rfl⟩ := nI_of hx
      have e := op_letter0 (M := uM_thrown M 0) (nm := sK_numbers (sD_drawn L)) (sg := sK_signs (sD_drawn L)) (ts := sK_titleStarts (sD_drawn L)) (us := 0) hP2 hPM' h0 f (fun p hp => by
        obtain ⟨a1, a2, a3, a4, a5⟩ := h1 p hp
        refine ⟨a1, ?_, a4, fun j hj => ?_⟩
        · have := hR.1 p 0 hp (by decide)
          rw [show 3 * (21 * 0 + p) + 0 = 3 * p by omega, show 3 * p + 0 = 3 * p by omega, a2] at this
          exact this.symm
        · have := (a5 j hj).1
          rw [show 126 * 0 + 6 * p + j = 6 * p + j by omega] at this
          exact this) hn (nI n) P 0 fuel (by omega) hfu (Nat.zero_le _)
      rw [show n - TT f 0 = n by rw [TT]; omega] at e
      have e' : L_M_letter_9 fuel (uM_thrown M 0) (nI n) (nI n) 0 = (if n < TT f P then sK_signs (sD_drawn L) n else -1, uM_thrown M 0) := e
      rw [e']
      refine ⟨?_, h.thrown⟩
      unfold F_K_sign
      rw [if_neg hx, h2]
      by_cases hq : n < TT f P
      · rw [if_neg (nI_ge hq (by omega)), if_pos (show nI n < 147 from nI_lt (b := 147) (by omega) (by decide)), nI_clamp hn]
        show _ = if n < TT f P then _ else _
        rw [if_pos hq]
      · rw [if_pos (nI_le (by omega) hn)]
        show _ = if n < TT f P then _ else _
        rw [if_neg hq]
  · have e : L_M_letter_9 fuel (uM_thrown M 0) x x 0 = (-1, uM_thrown M 0) := by
      obtain ⟨g, rfl⟩ : ∃ f, fuel = f + 1 := ⟨fuel - 1, by omega⟩
      rw [L_M_letter_9]
      split
      · rfl
      · rw [if_neg (show ¬ sM_kind (uM_thrown M 0) = 0 from h0)]
    rw [e]
    refine ⟨?_, h.thrown⟩
    unfold F_K_sign
    rw [hR.2.2.1 h0]
    by_cases hx : x < 0
    · rw [if_pos hx]
    · rw [if_neg hx, if_pos (Int32.not_lt.mp hx)]
