theorem Ttl_used {s i : Nat} {nm sg ts t : Nat → Int32} {us : Int32} (h : Ttl s i nm sg ts us t) : ∃ u, u ≤ 7 * i ∧ us = nI u := by
  obtain ⟨f, h1, h2⟩ := h
  exact ⟨TT f i, TT_le f i (fun p hp => (h1 p hp).1), h2⟩
theorem ks_start (S : SK) (c : Int64) (nm sg ts : Nat → Int32) (us : Int32) {P i : Nat} (hP : sK_parts S = nI P) (hP2 : P ≤ 21) (hi : i < P) : F_K_startTitle (ks S c nm sg ts us) (nI i) = ks S c nm sg (upd ts i us) us := by
  unfold F_K_startTitle
  rw [ks_has1 S c nm sg ts us hP hP2 hi, if_neg (by decide), ks_t, ks_u, ks_ut, nI_clamp (by omega)]
/-- a record that is drawn: m letters, each the same on both sides -/
theorem Ttl_step {s i m : Nat} {nm sg ts t nm' sg' t' : Nat → Int32} {us : Int32} (h : Ttl s i nm sg ts us t) (hm : m ≤ 6) (hn : ∀ p, p < i → nm' (3 * p) = nm (3 * p)) (hni : nm' (3 * i) = nI m) (hsl : ∀ u q, us = nI u → u ≤ 7 * i → q < u → sg' q = sg q) (hse : ∀ u, us = nI u → u ≤ 7 * i → sg' (u + m) = 10) (htl : ∀ j, j < 126 * s + 6 * i → t' j = t j) (hlet : ∀ u j, us = nI u → u ≤ 7 * i → j < m → sg' (u + j) = t' (126 * s + 6 * i + j) ∧ ∃ n, n < 128 ∧ t' (126 * s + 6 * i + j) = nI n) (us' : Int32) (hus : ∀ u, us = nI u → u ≤ 7 * i → us' = nI (u + m + 1)) : Ttl s (i + 1) nm' sg' (upd ts i us) us' t' := by
  obtain ⟨f, h1, h2⟩ := h
  have hT := TT_le f i (fun p hp => (h1 p hp).1)
  have hle : ∀ p, p ≤ i → TT (fun p => if p = i then m else f p) p = TT f p := fun p hp => TT_ext _ _ p (fun q hq => if_neg (by omega))
  refine ⟨fun p => if p = i then m else f p, fun p hp => ?_, ?_⟩
  · rcases Nat.lt_or_ge p i with q | q
    · obtain ⟨a1, a2, a3, a4, a5⟩ := h1 p q
      have hmo := TT_mono f i p q
      have e : (fun p => if p = i then m else f p) p = f p := if_neg (by omega)
      rw [hle p (by omega), e]
      refine ⟨a1, by rw [hn p q]; exact a2, by rw [pk_un (by omega)]; exact a3, by rw [hsl _ _ h2 hT (by omega)]; exact a4, fun j hj => ?_⟩
      obtain ⟨b1, b2⟩ := a5 j hj
      rw [hsl _ _ h2 hT (by omega), htl _ (by omega)]
      exact ⟨b1, b2⟩
    · have hpi : p = i := by omega
      subst hpi
      have e : (fun q => if q = p then m else f q) p = m := if_pos rfl
      rw [hle p (Nat.le_refl _), e]
      exact ⟨hm, hni, by rw [pk_us]; exact h2, hse _ h2 hT, fun j hj => hlet _ j h2 hT hj⟩
  · rw [TT, hle i (Nat.le_refl _), if_pos rfl]
    exact hus _ h2 hT
theorem st_rec_nd (S : SK) (M : SM) {s i z : Nat} (c0 c : Int64) (nm sg ts : Nat → Int32) (us : Int32) (v t : Nat → Int32) (hs : s ≤ 2) (hz : z ≤ 20) (hi : i < z + 1) (hP : sK_parts S = nI (z + 1)) (h : Rel 0 s i nm sg ts us v t) :
    ∃ (c' : Int64) (nm' sg' ts' : Nat → Int32) (us' : Int32) (v' t' : Nat → Int32), ndK (ks S c nm sg (upd ts i us) us) (nI i) = ks S c' nm' sg' ts' us' ∧ ndM (mk M c (upd v (3 * (21 * s + i) + 2) (-1)) t) (nI s) (nI i) = mk M c' v' t' ∧ Rel 0 s (i + 1) nm' sg' ts' us' v' t' ∧ Frm s v t v' t' := by
  have hT := h.2.1 rfl
  obtain ⟨u, hu, rfl⟩ := Ttl_used hT
  have hm := rv_lt c (show 0 < 7 by decide)
  refine ⟨_, _, _, _, _, _, _, K_nd S c nm sg (upd ts i (nI u)) hP (by omega) hi (show u + 6 < 147 by omega), M_nd M c _ t hs (by omega), ?_, ?_⟩
  · rw [upd3_perm]
    refine ⟨Num_step h.1 _ _ _, fun _ => ?_, fun q => absurd rfl q, Rng_step h.2.2.2 _ _ _ ⟨fun _ => Or.inl rfl, fun q => absurd q (by decide), fun q => absurd q (by decide)⟩⟩
    refine Ttl_step (m := hi31 (nxc c) % 7) hT (by omega) (fun p hp => upd3_o _ _ _ _ _ (by omega)) (by rw [upd3_0]; rfl) ?_ ?_ ?_ ?_ _ ?_
    · intro u1 q e1 _ hq
      have : u = u1 := (nI_eq (by omega) (by omega)).mp e1
      subst this
      exact ad_lo _ _ _ _ _ hq
    · intro u1 e1 _
      have : u = u1 := (nI_eq (by omega) (by omega)).mp e1
      subst this
      exact ad_end _ _ _ _
    · intro j hj
      exact ti_out _ _ _ _ _ (Or.inl hj)
    · intro u1 j e1 _ hj
      have : u = u1 := (nI_eq (by omega) (by omega)).mp e1
      subst this
      rw [ad_in _ _ _ _ _ hj, ti_in _ _ _ _ _ hj]
      obtain ⟨n, _, h3, h4⟩ := let_ok (nxi j (yc c))
      exact ⟨rfl, n, by omega, h4⟩
    · intro u1 e1 _
      have : u = u1 := (nI_eq (by omega) (by omega)).mp e1
      subst this
      rfl
  · rw [upd3_perm]
    refine ⟨fun j hj => upd3_o _ _ _ _ _ (by omega), fun j hj => ti_out _ _ _ _ _ (by omega)⟩
theorem st_rec_db (S : SK) (M : SM) {s i z g : Nat} (c : Int64) (nm sg ts : Nat → Int32) (us : Int32) (v t : Nat → Int32) (hs : s ≤ 2) (hz : z ≤ 20) (hi : i < z + 1) (hg : g < i) (hP : sK_parts S = nI (z + 1)) (h : Rel 0 s i nm sg ts us v t) :
    ∃ (c' : Int64) (nm' sg' ts' : Nat → Int32) (us' : Int32) (v' t' : Nat → Int32), dbK (nI g, ks S c nm sg (upd ts i us) us) (nI i) = ks S c' nm' sg' ts' us' ∧ dbM (nI g, mk M c v t) (nI s) (nI i) = mk M c' v' t' ∧ Rel 0 s (i + 1) nm' sg' ts' us' v' t' ∧ Frm s v t v' t' := by
  have hT := h.2.1 rfl
  obtain ⟨u, hu, rfl⟩ := Ttl_used hT
  obtain ⟨f, h1, h2⟩ := id hT
  obtain ⟨a1, a2, a3, a4, a5⟩ := h1 g hg
  have hmo := TT_mono f i g hg
  have hT2 := TT_le f i (fun p hp => (h1 p hp).1)
  have hu2 : u = TT f i := (nI_eq (by omega) (by omega)).mp h2
  refine ⟨_, _, _, _, _, _, _, K_db S c nm sg (upd ts i (nI u)) hP (by omega) hi hg a1 a2 (show upd ts i (nI u) g = nI (TT f g) by rw [pk_un (by omega)]; exact a3) (show u + 6 < 147 by omega) (by omega), M_db M c v t hs (by omega) hg, ?_, ?_⟩
  · have e0 : v (3 * (21 * s + g)) = nI (f g) := by
      rw [← a2]
      exact (h.1 g 0 hg (by decide)).symm
    have e1 : v (3 * (21 * s + g) + 1) = nm (3 * g + 1) := (h.1 g 1 hg (by decide)).symm
    rw [e0, e1]
    refine ⟨Num_step h.1 _ _ _, fun _ => ?_, fun q => absurd rfl q, Rng_step h.2.2.2 _ _ _ ⟨fun _ => Or.inr (nI_pos (by omega)), fun q => absurd q (by decide), fun q => absurd q (by decide)⟩⟩
    refine Ttl_step (m := f g) hT a1 (fun p hp => upd3_o _ _ _ _ _ (by omega)) (by rw [upd3_0]) ?_ ?_ ?_ ?_ _ ?_
    · intro u1 q e2 _ hq
      have : u = u1 := (nI_eq (by omega) (by omega)).mp e2
      subst this
      rw [pk_un (by omega), cp_lo _ _ _ _ _ hq]
    · intro u1 e2 _
      have : u = u1 := (nI_eq (by omega) (by omega)).mp e2
      subst this
      rw [pk_us]
    · intro j hj
      exact tc_out _ _ _ _ _ (Or.inl hj)
    · intro u1 j e2 _ hj
      have : u = u1 := (nI_eq (by omega) (by omega)).mp e2
      subst this
      obtain ⟨b1, n, b2, b3⟩ := a5 j hj
      rw [pk_un (by omega), cp_in _ _ _ _ _ hj (by omega), tc_in _ _ _ _ _ (by omega) (by omega), b1, b3, (byte_ok n b2).1]
      exact ⟨rfl, n, b2, rfl⟩
    · intro u1 e2 _
      have : u = u1 := (nI_eq (by omega) (by omega)).mp e2
      subst this
      rfl
  · exact ⟨fun j hj => upd3_o _ _ _ _ _ (by omega), fun j hj => tc_out _ _ _ _ _ (by omega)⟩
theorem st_rec (S : SK) (M : SM) {s i z : Nat} (c : Int64) (nm sg ts : Nat → Int32) (us : Int32) (v t : Nat → Int32) (hk : sK_kind S = 0) (hs : s ≤ 2) (hz : z ≤ 20) (hi : i < z + 1) (hP : sK_parts S = nI (z + 1)) (h : Rel 0 s i nm sg ts us v t) : Stp2 S M 0 s i z c nm sg ts us v t := by
  have eK : F_K_fillPart (ks S c nm sg ts us) (nI i) = F_K_fillRecord (ks S c nm sg ts us) (nI i) := by
    unfold F_K_fillPart
    rw [ks_k, hk, if_pos (show (0 : Int32) = 0 from rfl)]
  have eM : F_M_part4 (mk M c v t) (nI s) 0 (nI i) (nI z) = F_M_record (mk M c v t) (nI s) (nI i) := by
    unfold F_M_part4
    rw [if_pos (show (0 : Int32) = 0 from rfl)]
  unfold Stp2
  rewrite [eK, eM, K_rec, M_rec, ks_start S c nm sg ts us hP (by omega) hi]
  by_cases h0 : i = 0
  · rewrite [if_pos ((nI_le0 (show i < 2 ^ 31 by omega)).mpr h0), if_pos ((nI_le0 (show i < 2 ^ 31 by omega)).mpr h0), mk_v, mk_uv, at_2 hs (show i ≤ 20 by omega)]
    exact st_rec_nd S M c c nm sg ts us v t hs hz hi hP h
  · rewrite [if_neg (fun q => h0 ((nI_le0 (show i < 2 ^ 31 by omega)).mp q)), if_neg (fun q => h0 ((nI_le0 (show i < 2 ^ 31 by omega)).mp q)), ks_n5, mk_n5, pr_1, pr_1, pr_2, pr_2]
    by_cases h5 : rv c 5 = 0
    · rewrite [if_pos h5, if_pos h5, ks_nx S _ nm sg _ us (j := i) rfl (show 0 < i by omega) (show i < 2 ^ 31 by omega), mk_nx M _ v t (j := i) rfl (show 0 < i by omega) (show i < 2 ^ 31 by omega)]
      (try rewrite [pr_1])
      (try rewrite [pr_1])
      rewrite [if_neg (rv_m1 (nxc c) (show 0 < i by omega) (show i < 2 ^ 31 by omega)), if_neg (rv_nn (nxc c) (show 0 < i by omega) (show i < 2 ^ 31 by omega))]
      exact st_rec_db S M (nxc (nxc c)) nm sg ts us v t hs hz hi (rv_lt (nxc c) (show 0 < i by omega)) hP h
    · rewrite [if_neg h5, if_neg h5, mk_v, mk_uv, at_2 hs (show i ≤ 20 by omega)]
      exact st_rec_nd S M c (nxc c) nm sg ts us v t hs hz hi hP h
