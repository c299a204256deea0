-- what holds between the two while parts are drawn
def TT (f : Nat → Nat) : Nat → Nat
  | 0 => 0
  | n + 1 => TT f n + f n + 1
theorem TT_le (f : Nat → Nat) : ∀ n, (∀ p, p < n → f p ≤ 6) → TT f n ≤ 7 * n := by
  intro n
  induction n with
  | zero => intro _; exact Nat.le_refl _
  | succ n ih =>
    intro h
    have h1 := ih (fun p hp => h p (by omega))
    have h2 := h n (by omega)
    rw [TT]
    omega
theorem TT_ext (f g : Nat → Nat) : ∀ n, (∀ p, p < n → f p = g p) → TT f n = TT g n := by
  intro n
  induction n with
  | zero => intro _; rfl
  | succ n ih => intro h; rw [TT, TT, ih (fun p hp => h p (by omega)), h n (by omega)]
theorem TT_mono (f : Nat → Nat) : ∀ n p, p < n → TT f p + f p + 1 ≤ TT f n := by
  intro n
  induction n with
  | zero => intro p h; omega
  | succ n ih =>
    intro p h
    rw [TT]
    rcases Nat.lt_or_ge p n with q | q
    · have := ih p q; omega
    · have : p = n := by omega
      subst this; omega
def Ttl (s i : Nat) (nm sg ts : Nat → Int32) (us : Int32) (t : Nat → Int32) : Prop :=
  ∃ f : Nat → Nat, (∀ p, p < i → f p ≤ 6 ∧ nm (3 * p) = nI (f p) ∧ ts p = nI (TT f p) ∧ sg (TT f p + f p) = 10 ∧ ∀ j, j < f p → sg (TT f p + j) = t (126 * s + 6 * p + j) ∧ ∃ n, n < 128 ∧ t (126 * s + 6 * p + j) = nI n) ∧ us = nI (TT f i)
def Num (s i : Nat) (nm v : Nat → Int32) : Prop := ∀ p w, p < i → w < 3 → nm (3 * p + w) = v (3 * (21 * s + p) + w)
def Rng (k y z : Int32) : Prop := (k = 0 → z = -1 ∨ ¬ z < 0) ∧ (k = 3 → ¬ z < 0) ∧ (k = 4 → y = -1 ∨ ¬ y < 0)
def Rel (k : Int32) (s i : Nat) (nm sg ts : Nat → Int32) (us : Int32) (v t : Nat → Int32) : Prop :=
  Num s i nm v ∧ (k = 0 → Ttl s i nm sg ts us t) ∧ (¬ k = 0 → us = 0) ∧ ∀ p, p < i → Rng k (v (3 * (21 * s + p) + 1)) (v (3 * (21 * s + p) + 2))
def Frm (s : Nat) (v t v' t' : Nat → Int32) : Prop := (∀ j, j < 63 * s ∨ 63 * s + 63 ≤ j → v' j = v j) ∧ ∀ j, j < 126 * s ∨ 126 * s + 126 ≤ j → t' j = t j
theorem Frm.rf {s : Nat} {v t : Nat → Int32} : Frm s v t v t := ⟨fun _ _ => rfl, fun _ _ => rfl⟩
theorem Frm.tr {s : Nat} {v t v1 t1 v2 t2 : Nat → Int32} (h1 : Frm s v t v1 t1) (h2 : Frm s v1 t1 v2 t2) : Frm s v t v2 t2 := ⟨fun j hj => (h2.1 j hj).trans (h1.1 j hj), fun j hj => (h2.2 j hj).trans (h1.2 j hj)⟩
theorem Num_step {s i : Nat} {nm v : Nat → Int32} (h : Num s i nm v) (x y z : Int32) : Num s (i + 1) (upd3 nm i x y z) (upd3 v (21 * s + i) x y z) := by
  intro p w hp hw
  rcases Nat.lt_or_ge p i with q | q
  · rw [upd3_o _ _ _ _ _ (by omega), upd3_o _ _ _ _ _ (by omega)]
    exact h p w q hw
  · have : p = i := by omega
    subst this
    rcases (show w = 0 ∨ w = 1 ∨ w = 2 by omega) with rfl | rfl | rfl
    · rw [Nat.add_zero, Nat.add_zero, upd3_0, upd3_0]
    · rw [upd3_1, upd3_1]
    · rw [upd3_2, upd3_2]
theorem Rng_step {k : Int32} {s i : Nat} {v : Nat → Int32} (h : ∀ p, p < i → Rng k (v (3 * (21 * s + p) + 1)) (v (3 * (21 * s + p) + 2))) (x y z : Int32) (hr : Rng k y z) : ∀ p, p < i + 1 → Rng k (upd3 v (21 * s + i) x y z (3 * (21 * s + p) + 1)) (upd3 v (21 * s + i) x y z (3 * (21 * s + p) + 2)) := by
  intro p hp
  rcases Nat.lt_or_ge p i with q | q
  · rw [upd3_o _ _ _ _ _ (by omega), upd3_o _ _ _ _ _ (by omega)]
    exact h p q
  · have : p = i := by omega
    subst this
    rw [upd3_1, upd3_2]
    exact hr
theorem Frm_step {s i : Nat} (hi : i < 21) (v t : Nat → Int32) (x y z : Int32) : Frm s v t (upd3 v (21 * s + i) x y z) t := ⟨fun j hj => upd3_o _ _ _ _ _ (by omega), fun _ _ => rfl⟩
/-- a part of another kind than records -/
theorem Rel_step {k : Int32} {s i : Nat} {nm sg ts v t : Nat → Int32} {us : Int32} (hk : ¬ k = 0) (h : Rel k s i nm sg ts us v t) (x y z : Int32) (hr : Rng k y z) : Rel k s (i + 1) (upd3 nm i x y z) sg ts us (upd3 v (21 * s + i) x y z) t :=
  ⟨Num_step h.1 x y z, fun e => absurd e hk, h.2.2.1, Rng_step h.2.2.2 x y z hr⟩
theorem add1_nn {c : Int64} {j : Nat} (h0 : 0 < j) (h : j < 1000000) : ¬ 1 + rv c j < 0 := by
  have := rv_lt c h0
  unfold rv
  rw [show (1 : Int32) = nI 1 from rfl, nI_add]
  exact nI_pos (by omega)
def Stp2 (S : SK) (M : SM) (k : Int32) (s i z : Nat) (c : Int64) (nm sg ts : Nat → Int32) (us : Int32) (v t : Nat → Int32) : Prop :=
  ∃ (c' : Int64) (nm' sg' ts' : Nat → Int32) (us' : Int32) (v' t' : Nat → Int32), F_K_fillPart (ks S c nm sg ts us) (nI i) = ks S c' nm' sg' ts' us' ∧ F_M_part4 (mk M c v t) (nI s) k (nI i) (nI z) = mk M c' v' t' ∧ Rel k s (i + 1) nm' sg' ts' us' v' t' ∧ Frm s v t v' t'
section STEP
variable (S : SK) (M : SM) {s i z : Nat} (c : Int64) (nm sg ts : Nat → Int32) (us : Int32) (v t : Nat → Int32) (hs : s ≤ 2) (hz : z ≤ 20) (hi : i < z + 1) (hP : sK_parts S = nI (z + 1))
theorem st_file (hk : sK_kind S = 1) (hs : s ≤ 2) (hz : z ≤ 20) (hi : i < z + 1) (hP : sK_parts S = nI (z + 1)) (h : Rel 1 s i nm sg ts us v t) : Stp2 S M 1 s i z c nm sg ts us v t := by
  refine ⟨_, _, _, _, _, _, _, ?_, M_file M c v t hs (by omega) _, Rel_step (by decide) h _ _ _ ⟨fun q => absurd q (by decide), fun q => absurd q (by decide), fun q => absurd q (by decide)⟩, Frm_step (by omega) v t _ _ _⟩
  unfold F_K_fillPart
  rw [ks_k, hk, if_neg (show ¬ (1 : Int32) = 0 by decide), if_pos (show (1 : Int32) = 1 from rfl)]
  exact K_file S c nm sg ts us hP (by omega) hi
theorem st_pattern (hk : sK_kind S = 2) (hs : s ≤ 2) (hz : z ≤ 20) (hi : i < z + 1) (hP : sK_parts S = nI (z + 1)) (h : Rel 2 s i nm sg ts us v t) : Stp2 S M 2 s i z c nm sg ts us v t := by
  refine ⟨_, _, _, _, _, _, _, ?_, M_pattern M c v t hs (by omega) _, Rel_step (by decide) h _ _ _ ⟨fun q => absurd q (by decide), fun q => absurd q (by decide), fun q => absurd q (by decide)⟩, Frm_step (by omega) v t _ _ _⟩
  unfold F_K_fillPart
  rw [ks_k, hk, if_neg (show ¬ (2 : Int32) = 0 by decide), if_neg (show ¬ (2 : Int32) = 1 by decide), if_pos (show (2 : Int32) = 2 from rfl)]
  exact K_pattern S c nm sg ts us hP (by omega) hi
theorem st_line (hk : sK_kind S = 3) (hs : s ≤ 2) (hz : z ≤ 20) (hi : i < z + 1) (hP : sK_parts S = nI (z + 1)) (h : Rel 3 s i nm sg ts us v t) : Stp2 S M 3 s i z c nm sg ts us v t := by
  refine ⟨_, _, _, _, _, _, _, ?_, M_line M c v t hs (by omega) _, Rel_step (by decide) h _ _ _ ⟨fun q => absurd q (by decide), fun _ => ?_, fun q => absurd q (by decide)⟩, Frm_step (by omega) v t _ _ _⟩
  · unfold F_K_fillPart
    rw [ks_k, hk, if_neg (show ¬ (3 : Int32) = 0 by decide), if_neg (show ¬ (3 : Int32) = 1 by decide), if_neg (show ¬ (3 : Int32) = 2 by decide), if_pos (show (3 : Int32) = 3 from rfl)]
    exact K_line S c nm sg ts us hP (by omega) hi
  · unfold pln
    split
    · exact add1_nn (by decide) (by decide)
    · exact (by decide : ¬ (0 : Int32) < 0)
theorem st_reader (hk : sK_kind S = 4) (hs : s ≤ 2) (hz : z ≤ 20) (hi : i < z + 1) (hP : sK_parts S = nI (z + 1)) (h : Rel 4 s i nm sg ts us v t) : Stp2 S M 4 s i z c nm sg ts us v t := by
  have hM := M_reader M c v t hs (show i ≤ 20 by omega) (nI z) (fun g hg => (h.2.2.2 g hg).2.2 rfl)
  have hK := K_reader S c nm sg ts us hP (by omega) hi
  have e : prd c i (fun g => nm (3 * g + 1)) = prd c i (fun g => v (3 * (21 * s + g) + 1)) := by
    unfold prd
    by_cases h0 : i = 0
    · rw [if_pos h0, if_pos h0]
    · rw [if_neg h0, if_neg h0]
      have e9 := h.1 _ 1 (rv_lt (nxc (nxc c)) (show 0 < i by omega)) (by decide)
      simp only [e9]
  rw [e] at hK
  refine ⟨_, _, _, _, _, _, _, ?_, hM, Rel_step (by decide) h _ _ _ ⟨fun q => absurd q (by decide), fun q => absurd q (by decide), fun _ => ?_⟩, Frm_step (by omega) v t _ _ _⟩
  · unfold F_K_fillPart
    rw [ks_k, hk, if_neg (show ¬ (4 : Int32) = 0 by decide), if_neg (show ¬ (4 : Int32) = 1 by decide), if_neg (show ¬ (4 : Int32) = 2 by decide), if_neg (show ¬ (4 : Int32) = 3 by decide), if_pos (show (4 : Int32) = 4 from rfl)]
    exact hK
  · unfold prd
    by_cases h0 : i = 0
    · rw [if_pos h0]; exact Or.inl rfl
    · rw [if_neg h0]
      by_cases h3 : rv (nxc c) 3 = 0
      · rw [if_pos h3]
        by_cases h4 : v (3 * (21 * s + hi31 (nxc (nxc (nxc c))) % i) + 1) = -1
        · simp only [if_pos h4]
          exact Or.inr (rv_nn _ (by omega) (by omega))
        · simp only [if_neg h4]
          first | exact Or.inl rfl | exact Or.inl trivial
      · rw [if_neg h3]; exact Or.inl rfl
theorem st_act (hk : sK_kind S = 5) (hs : s ≤ 2) (hz : z ≤ 20) (hi : i < z + 1) (hP : sK_parts S = nI (z + 1)) (h : Rel 5 s i nm sg ts us v t) : Stp2 S M 5 s i z c nm sg ts us v t := by
  have hM := M_act M c v t hs (show i ≤ 20 by omega) hz
  have hK := K_act S c nm sg ts us hP (by omega) hi
  have e : (if i = 0 then 0 else nm (3 * i - 1)) = (if i = 0 then 0 else v (3 * (21 * s + i) - 1)) := by
    by_cases h0 : i = 0
    · rw [if_pos h0, if_pos h0]
    · rw [if_neg h0, if_neg h0]
      have := h.1 (i - 1) 2 (by omega) (by decide)
      rw [show 3 * (i - 1) + 2 = 3 * i - 1 by omega, show 3 * (21 * s + (i - 1)) + 2 = 3 * (21 * s + i) - 1 by omega] at this
      exact this
  rw [e] at hK
  refine ⟨_, _, _, _, _, _, _, ?_, hM, Rel_step (by decide) h _ _ _ ⟨fun q => absurd q (by decide), fun q => absurd q (by decide), fun q => absurd q (by decide)⟩, Frm_step (by omega) v t _ _ _⟩
  unfold F_K_fillPart
  rw [ks_k, hk, if_neg (show ¬ (5 : Int32) = 0 by decide), if_neg (show ¬ (5 : Int32) = 1 by decide), if_neg (show ¬ (5 : Int32) = 2 by decide), if_neg (show ¬ (5 : Int32) = 3 by decide), if_neg (show ¬ (5 : Int32) = 4 by decide)]
  exact hK
end STEP
