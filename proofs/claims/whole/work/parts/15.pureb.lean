theorem rv_nn (c : Int64) {j : Nat} (h0 : 0 < j) (h : j < 2 ^ 31) : ¬ rv c j < 0 := by
  have := rv_lt c h0
  exact nI_pos (by omega)
theorem rv_m1 (c : Int64) {j : Nat} (h0 : 0 < j) (h : j < 2 ^ 31) : ¬ rv c j = -1 := by
  intro q
  apply rv_nn c h0 h
  rw [q]
  decide
theorem nI_le0 {i : Nat} (h : i < 2 ^ 31) : nI i ≤ 0 ↔ i = 0 := by
  rw [show (0 : Int32) = nI 0 from rfl, nI_leI h (by decide)]
  omega
theorem nI_is0 {i : Nat} (h : i < 2 ^ 31) : nI i = 0 ↔ i = 0 := by
  rw [show (0 : Int32) = nI 0 from rfl, nI_eq h (by decide)]
-- PATTERNS
noncomputable def pn (c : Int64) : Nat := (1500 - hi31 (nxc c) % 1000) / (1 + hi31 (nxc (nxc c)) % 60) + 1
theorem pn_lt (c : Int64) : 0 < pn c ∧ pn c < 2 ^ 31 := by
  unfold pn
  have := Nat.div_le_self (1500 - hi31 (nxc c) % 1000) (1 + hi31 (nxc (nxc c)) % 60)
  generalize (1500 - hi31 (nxc c) % 1000) / (1 + hi31 (nxc (nxc c)) % 60) = q at this ⊢
  omega
theorem pn_eq (c : Int64) : ((1500 - rv c 1000) / (1 + rv (nxc c) 60)) + 1 = nI (pn c) := by
  have h1 := rv_lt c (show 0 < 1000 by decide)
  have h2 := rv_lt (nxc c) (show 0 < 60 by decide)
  unfold rv pn
  rw [show (1500 : Int32) = nI 1500 from rfl, show (1 : Int32) = nI 1 from rfl, pk_sub (by omega), nI_add, pk_div (by omega) (by omega) (by omega), nI_add]
noncomputable def ppt (c : Int64) : Int64 × Int32 × Int32 × Int32 := (nxc (nxc (nxc c)), rv c 1000, 1 + rv (nxc c) 60, 1 + rv (nxc (nxc c)) (pn c))
theorem K_pattern (S : SK) (c : Int64) (nm sg ts : Nat → Int32) (us : Int32) {P i : Nat} (hP : sK_parts S = nI P) (hP2 : P ≤ 21) (hi : i < P) : F_K_fillPattern (ks S c nm sg ts us) (nI i) = ks S (ppt c).1 (upd3 nm i (ppt c).2.1 (ppt c).2.2.1 (ppt c).2.2.2) sg ts us := by
  unfold F_K_fillPattern ppt
  simp only [ks_n1000, ks_n60]
  have h2 := rv_lt (nxc c) (show 0 < 60 by decide)
  have h1 : (1 : Int32) ≤ 1 + rv (nxc c) 60 := by
    unfold rv
    rw [show (1 : Int32) = nI 1 from rfl, nI_add]
    exact nI_le (by omega) (by omega)
  rw [if_pos h1, pn_eq, ks_nx S _ nm sg ts us (j := pn c) rfl (pn_lt c).1 (pn_lt c).2]
  simp only [ks_put S _ _ _ _ _ hP hP2 hi]
theorem M_pattern (M : SM) (c : Int64) (v t : Nat → Int32) {s i : Nat} (hs : s ≤ 2) (hi : i ≤ 20) (z : Int32) : F_M_part4 (mk M c v t) (nI s) 2 (nI i) z = mk M (ppt c).1 (upd3 v (21 * s + i) (ppt c).2.1 (ppt c).2.2.1 (ppt c).2.2.2) t := by
  unfold F_M_part4 ppt
  rw [if_neg (show ¬ (2 : Int32) = 0 by decide), if_neg (show ¬ (2 : Int32) = 1 by decide), if_pos (show (2 : Int32) = 2 from rfl)]
  simp only [mk_n1000, mk_n60, mk_v, mk_uv, at_0 hs hi, at_1 hs hi, at_2 hs hi, pk_us, pk_un (show 3 * (21 * s + i) ≠ 3 * (21 * s + i) + 1 by omega), pn_eq]
  rw [mk_nx M _ _ t (j := pn c) rfl (pn_lt c).1 (pn_lt c).2]
  simp only [mk_v, mk_uv]
  rfl
-- ACTS
noncomputable def pac (c : Int64) (P : Nat) (u : Int32) : Int64 × Int32 × Int32 × Int32 := (nxc (nxc (nxc c)), rv c 6, rv (nxc c) P, u + rv (nxc (nxc c)) 5)
theorem K_act (S : SK) (c : Int64) (nm sg ts : Nat → Int32) (us : Int32) {P i : Nat} (hP : sK_parts S = nI P) (hP2 : P ≤ 21) (hi : i < P) : F_K_fillAct (ks S c nm sg ts us) (nI i) = ks S (pac c P (if i = 0 then 0 else nm (3 * i - 1))).1 (upd3 nm i (pac c P (if i = 0 then 0 else nm (3 * i - 1))).2.1 (pac c P (if i = 0 then 0 else nm (3 * i - 1))).2.2.1 (pac c P (if i = 0 then 0 else nm (3 * i - 1))).2.2.2) sg ts us := by
  unfold F_K_fillAct pac
  simp only [ks_n6, ks_p, hP, ks_nx S _ nm sg ts us (j := P) rfl (by omega) (by omega), ks_n5]
  have ht : F_K_timeBefore (ks S (nxc (nxc c)) nm sg ts us) (nI i) = if i = 0 then 0 else nm (3 * i - 1) := by
    unfold F_K_timeBefore
    by_cases h : i = 0
    · rw [if_pos h, if_pos ((nI_le0 (by omega)).mpr h)]
    · rw [if_neg h, if_neg (fun q => h ((nI_le0 (by omega)).mp q)), show (1 : Int32) = nI 1 from rfl, pk_sub (by omega)]
      rw [show (2 : Int32) = nI 2 from rfl, ks_num S _ nm sg ts us hP hP2 (show i - 1 < P by omega) (by decide)]
      congr 1
      omega
  rw [ht]
  simp only [ks_put S _ _ _ _ _ hP hP2 hi]
theorem M_act (M : SM) (c : Int64) (v t : Nat → Int32) {s i z : Nat} (hs : s ≤ 2) (hi : i ≤ 20) (hz : z ≤ 20) : F_M_part4 (mk M c v t) (nI s) 5 (nI i) (nI z) = mk M (pac c (z + 1) (if i = 0 then 0 else v (3 * (21 * s + i) - 1))).1 (upd3 v (21 * s + i) (pac c (z + 1) (if i = 0 then 0 else v (3 * (21 * s + i) - 1))).2.1 (pac c (z + 1) (if i = 0 then 0 else v (3 * (21 * s + i) - 1))).2.2.1 (pac c (z + 1) (if i = 0 then 0 else v (3 * (21 * s + i) - 1))).2.2.2) t := by
  unfold F_M_part4 pac
  rw [if_neg (show ¬ (5 : Int32) = 0 by decide), if_neg (show ¬ (5 : Int32) = 1 by decide), if_neg (show ¬ (5 : Int32) = 2 by decide), if_neg (show ¬ (5 : Int32) = 3 by decide), if_neg (show ¬ (5 : Int32) = 4 by decide)]
  simp only [mk_n6, mk_n5, mk_v, mk_uv, at_0 hs hi, at_1 hs hi, at_2 hs hi, nI_1, mk_nx M _ _ t (j := z + 1) rfl (show 0 < z + 1 by omega) (show z + 1 < 2 ^ 31 by omega)]
  by_cases h : i = 0
  · simp only [if_pos h, if_pos ((nI_is0 (show i < 2 ^ 31 by omega)).mpr h)]
    rfl
  · have e1 : Int32.toNatClampNeg (F_M_at (nI s) (nI i) - 1) = 3 * (21 * s + i) - 1 := by
      rw [at_e, show (1 : Int32) = nI 1 from rfl, pk_sub (by omega), nI_clamp (by omega)]
    simp only [if_neg h, if_neg (fun q => h ((nI_is0 (show i < 2 ^ 31 by omega)).mp q)), e1, pk_un (show 3 * (21 * s + i) - 1 ≠ 3 * (21 * s + i) + 1 by omega), pk_un (show 3 * (21 * s + i) - 1 ≠ 3 * (21 * s + i) by omega)]
    rfl
-- READERS
noncomputable def prd (c : Int64) (i : Nat) (f : Nat → Int32) : Int64 × Int32 × Int32 × Int32 :=
  if i = 0 then (nxc (nxc c), rv c 5, -1, (100 + (10 * nI i)) + rv (nxc c) 10)
  else if rv (nxc c) 3 = 0 then (nxc (nxc (nxc (nxc c))), rv c 5, (if f (hi31 (nxc (nxc (nxc c))) % i) = -1 then rv (nxc (nxc c)) i else -1), (100 + (10 * nI i)) + rv (nxc (nxc (nxc c))) 10)
  else (nxc (nxc (nxc c)), rv c 5, -1, (100 + (10 * nI i)) + rv (nxc (nxc c)) 10)
theorem K_reader (S : SK) (c : Int64) (nm sg ts : Nat → Int32) (us : Int32) {P i : Nat} (hP : sK_parts S = nI P) (hP2 : P ≤ 21) (hi : i < P) : F_K_fillReader (ks S c nm sg ts us) (nI i) = ks S (prd c i (fun g => nm (3 * g + 1))).1 (upd3 nm i (prd c i (fun g => nm (3 * g + 1))).2.1 (prd c i (fun g => nm (3 * g + 1))).2.2.1 (prd c i (fun g => nm (3 * g + 1))).2.2.2) sg ts us := by
  unfold F_K_fillReader prd
  simp only [ks_n5, ks_n10, ks_n3]
  by_cases h : i = 0
  · simp only [if_pos h, if_pos ((nI_le0 (show i < 2 ^ 31 by omega)).mpr h), ks_put S _ _ _ _ _ hP hP2 hi]
  · simp only [if_neg h, if_neg (fun q => h ((nI_le0 (show i < 2 ^ 31 by omega)).mp q))]
    by_cases h3 : rv (nxc c) 3 = 0
    · have hg := rv_lt (nxc (nxc c)) (show 0 < i by omega)
      have hn : F_K_number (ks S (nxc (nxc (nxc c))) nm sg ts us) (rv (nxc (nxc c)) i) 1 = nm (3 * (hi31 (nxc (nxc (nxc c))) % i) + 1) := ks_num S _ nm sg ts us hP hP2 (show hi31 (nxc (nxc (nxc c))) % i < P by omega) (w := 1) (by decide)
      simp only [if_pos h3, ks_nx S _ nm sg ts us (j := i) rfl (show 0 < i by omega) (show i < 2 ^ 31 by omega), if_neg (rv_m1 (nxc (nxc c)) (show 0 < i by omega) (show i < 2 ^ 31 by omega)), hn, ks_n10]
      by_cases h4 : nm (3 * (hi31 (nxc (nxc (nxc c))) % i) + 1) = -1
      · simp only [if_pos h4, ks_put S _ _ _ _ _ hP hP2 hi]
      · simp only [if_neg h4, ks_put S _ _ _ _ _ hP hP2 hi]
    · simp only [if_neg h3, ks_put S _ _ _ _ _ hP hP2 hi]
theorem upd_twice (f : Nat → Int32) (k : Nat) (x y : Int32) : upd (upd f k x) k y = upd f k y := by
  funext j
  by_cases h : j = k
  · subst h; rw [pk_us, pk_us]
  · rw [pk_un h, pk_un h, pk_un h]
theorem M_reader (M : SM) (c : Int64) (v t : Nat → Int32) {s i : Nat} (hs : s ≤ 2) (hi : i ≤ 20) (z : Int32) (hf : ∀ g, g < i → v (3 * (21 * s + g) + 1) = -1 ∨ ¬ v (3 * (21 * s + g) + 1) < 0) : F_M_part4 (mk M c v t) (nI s) 4 (nI i) z = mk M (prd c i (fun g => v (3 * (21 * s + g) + 1))).1 (upd3 v (21 * s + i) (prd c i (fun g => v (3 * (21 * s + g) + 1))).2.1 (prd c i (fun g => v (3 * (21 * s + g) + 1))).2.2.1 (prd c i (fun g => v (3 * (21 * s + g) + 1))).2.2.2) t := by
  unfold F_M_part4 prd
  rw [if_neg (show ¬ (4 : Int32) = 0 by decide), if_neg (show ¬ (4 : Int32) = 1 by decide), if_neg (show ¬ (4 : Int32) = 2 by decide), if_neg (show ¬ (4 : Int32) = 3 by decide), if_pos (show (4 : Int32) = 4 from rfl)]
  by_cases h : i = 0
  · simp only [if_pos h, if_pos ((nI_le0 (show i < 2 ^ 31 by omega)).mpr h), pk_us, if_pos (show (-1 : Int32) < 0 by decide), mk_n5, mk_n10, mk_v, mk_uv, at_0 hs hi, at_1 hs hi, at_2 hs hi]
    rfl
  · simp only [if_neg h, if_neg (fun q => h ((nI_le0 (show i < 2 ^ 31 by omega)).mp q)), mk_n5, mk_n3, mk_v, mk_uv]
    by_cases h3 : rv (nxc c) 3 = 0
    · have hg := rv_lt (nxc (nxc c)) (show 0 < i by omega)
      have ea : Int32.toNatClampNeg (F_M_at (nI s) (rv (nxc (nxc c)) i) + 1) = 3 * (21 * s + hi31 (nxc (nxc (nxc c))) % i) + 1 := at_1 hs (show hi31 (nxc (nxc (nxc c))) % i ≤ 20 by omega)
      simp only [if_pos h3, mk_nx M _ _ t (j := i) rfl (show 0 < i by omega) (show i < 2 ^ 31 by omega), pk_us, if_neg (rv_nn (nxc (nxc c)) (show 0 < i by omega) (show i < 2 ^ 31 by omega)), mk_v, mk_uv, ea, mk_n10, at_0 hs hi, at_1 hs hi, at_2 hs hi]
      have e1 : (upd (upd v (3 * (21 * s + i)) (rv c 5)) (3 * (21 * s + i) + 1) (rv (nxc (nxc c)) i)) (3 * (21 * s + hi31 (nxc (nxc (nxc c))) % i) + 1) = v (3 * (21 * s + hi31 (nxc (nxc (nxc c))) % i) + 1) := by
        rw [pk_un (by omega), pk_un (by omega)]
      rw [e1]
      rcases hf _ hg with q | q
      · have q' : v (3 * (21 * s + hi31 (nxc (nxc (nxc c))) % i) + 1) = -1 := q
        rw [if_pos (show v (3 * (21 * s + hi31 (nxc (nxc (nxc c))) % i) + 1) < 0 by rw [q']; decide), if_pos q']
        rfl
      · have q2 : ¬ v (3 * (21 * s + hi31 (nxc (nxc (nxc c))) % i) + 1) = -1 := fun z => q (by
          have z' : v (3 * (21 * s + hi31 (nxc (nxc (nxc c))) % i) + 1) = -1 := z
          show v (3 * (21 * s + hi31 (nxc (nxc (nxc c))) % i) + 1) < 0
          rw [z']; decide)
        have q1 : ¬ v (3 * (21 * s + hi31 (nxc (nxc (nxc c))) % i) + 1) < 0 := q
        rw [if_neg q1, if_neg q2, upd_twice]
        rfl
    · simp only [if_neg h3, pk_us, if_pos (show (-1 : Int32) < 0 by decide), mk_n10, mk_v, mk_uv, at_0 hs hi, at_1 hs hi, at_2 hs hi]
      rfl
