/-! ===== pure: the two drawings side by side ===== -/
noncomputable def rv (c : Int64) (j : Nat) : Int32 := nI (hi31 (nxc c) % j)
theorem rv_lt (c : Int64) {j : Nat} (h : 0 < j) : hi31 (nxc c) % j < j := Nat.mod_lt _ h
theorem rv_zr (c : Int64) {j : Nat} (h : 0 < j) : zr (rv c j) 0 (j - 1) := by
  have := rv_lt c h
  exact ⟨_, rfl, Nat.zero_le _, by omega⟩
def upd3 (f : Nat → Int32) (q : Nat) (x y z : Int32) : Nat → Int32 := upd (upd (upd f (3 * q) x) (3 * q + 1) y) (3 * q + 2) z
theorem upd_eq (f : Nat → Int32) (k j : Nat) (x : Int32) : upd f k x j = if j = k then x else f j := rfl
theorem upd3_0 (f : Nat → Int32) (q : Nat) (x y z : Int32) : upd3 f q x y z (3 * q) = x := by
  unfold upd3; rw [pk_un (by omega), pk_un (by omega), pk_us]
theorem upd3_1 (f : Nat → Int32) (q : Nat) (x y z : Int32) : upd3 f q x y z (3 * q + 1) = y := by
  unfold upd3; rw [pk_un (by omega), pk_us]
theorem upd3_2 (f : Nat → Int32) (q : Nat) (x y z : Int32) : upd3 f q x y z (3 * q + 2) = z := by
  unfold upd3; rw [pk_us]
theorem upd3_o (f : Nat → Int32) (q : Nat) (x y z : Int32) {j : Nat} (h : j < 3 * q ∨ 3 * q + 2 < j) : upd3 f q x y z j = f j := by
  unfold upd3; rw [pk_un (by omega), pk_un (by omega), pk_un (by omega)]
-- the reference's state: chance, values, title over a ground
def mk (M : SM) (c : Int64) (v t : Nat → Int32) : SM := uM_title (uM_values (uM_chance M c) v) t
theorem mk_eta (M : SM) : mk M (sM_chance M) (sM_values M) (sM_title M) = M := rfl
theorem mk_c (M : SM) (c : Int64) (v t : Nat → Int32) : sM_chance (mk M c v t) = c := Eq.trans rfl rfl
theorem mk_v (M : SM) (c : Int64) (v t : Nat → Int32) : sM_values (mk M c v t) = v := Eq.trans rfl rfl
theorem mk_t (M : SM) (c : Int64) (v t : Nat → Int32) : sM_title (mk M c v t) = t := Eq.trans rfl rfl
theorem mk_uc (M : SM) (c d : Int64) (v t : Nat → Int32) : uM_chance (mk M c v t) d = mk M d v t := Eq.trans rfl rfl
theorem mk_uv (M : SM) (c : Int64) (v t x : Nat → Int32) : uM_values (mk M c v t) x = mk M c x t := Eq.trans rfl rfl
theorem mk_ut (M : SM) (c : Int64) (v t x : Nat → Int32) : uM_title (mk M c v t) x = mk M c v x := Eq.trans rfl rfl
theorem mk_nx (M : SM) (c : Int64) (v t : Nat → Int32) {n : Int32} {j : Nat} (e : n = nI j) (h0 : 0 < j) (h : j < 2 ^ 31) : F_M_next (mk M c v t) n = (rv c j, mk M (nxc c) v t) := by
  rw [M_next_eq _ e h0 h, mk_c, mk_uc]
  rfl
theorem mk_n3 (M : SM) (c : Int64) (v t : Nat → Int32) : F_M_next (mk M c v t) 3 = (rv c 3, mk M (nxc c) v t) := mk_nx _ _ _ _ (j := 3) rfl (by decide) (by decide)
theorem mk_n4 (M : SM) (c : Int64) (v t : Nat → Int32) : F_M_next (mk M c v t) 4 = (rv c 4, mk M (nxc c) v t) := mk_nx _ _ _ _ (j := 4) rfl (by decide) (by decide)
theorem mk_n5 (M : SM) (c : Int64) (v t : Nat → Int32) : F_M_next (mk M c v t) 5 = (rv c 5, mk M (nxc c) v t) := mk_nx _ _ _ _ (j := 5) rfl (by decide) (by decide)
theorem mk_n6 (M : SM) (c : Int64) (v t : Nat → Int32) : F_M_next (mk M c v t) 6 = (rv c 6, mk M (nxc c) v t) := mk_nx _ _ _ _ (j := 6) rfl (by decide) (by decide)
theorem mk_n7 (M : SM) (c : Int64) (v t : Nat → Int32) : F_M_next (mk M c v t) 7 = (rv c 7, mk M (nxc c) v t) := mk_nx _ _ _ _ (j := 7) rfl (by decide) (by decide)
theorem mk_n8 (M : SM) (c : Int64) (v t : Nat → Int32) : F_M_next (mk M c v t) 8 = (rv c 8, mk M (nxc c) v t) := mk_nx _ _ _ _ (j := 8) rfl (by decide) (by decide)
theorem mk_n9 (M : SM) (c : Int64) (v t : Nat → Int32) : F_M_next (mk M c v t) 9 = (rv c 9, mk M (nxc c) v t) := mk_nx _ _ _ _ (j := 9) rfl (by decide) (by decide)
theorem mk_n10 (M : SM) (c : Int64) (v t : Nat → Int32) : F_M_next (mk M c v t) 10 = (rv c 10, mk M (nxc c) v t) := mk_nx _ _ _ _ (j := 10) rfl (by decide) (by decide)
theorem mk_n26 (M : SM) (c : Int64) (v t : Nat → Int32) : F_M_next (mk M c v t) 26 = (rv c 26, mk M (nxc c) v t) := mk_nx _ _ _ _ (j := 26) rfl (by decide) (by decide)
theorem mk_n60 (M : SM) (c : Int64) (v t : Nat → Int32) : F_M_next (mk M c v t) 60 = (rv c 60, mk M (nxc c) v t) := mk_nx _ _ _ _ (j := 60) rfl (by decide) (by decide)
theorem mk_n120 (M : SM) (c : Int64) (v t : Nat → Int32) : F_M_next (mk M c v t) 120 = (rv c 120, mk M (nxc c) v t) := mk_nx _ _ _ _ (j := 120) rfl (by decide) (by decide)
theorem mk_n1000 (M : SM) (c : Int64) (v t : Nat → Int32) : F_M_next (mk M c v t) 1000 = (rv c 1000, mk M (nxc c) v t) := mk_nx _ _ _ _ (j := 1000) rfl (by decide) (by decide)
theorem at_e (s i : Nat) : F_M_at (nI s) (nI i) = nI (3 * (21 * s + i)) := by
  unfold F_M_at
  rw [show (63 : Int32) = nI 63 from rfl, show (3 : Int32) = nI 3 from rfl, pk_mul, pk_mul, nI_add]
  congr 1
  omega
theorem at_0 {s i : Nat} (hs : s ≤ 2) (hi : i ≤ 20) : Int32.toNatClampNeg (F_M_at (nI s) (nI i)) = 3 * (21 * s + i) := by
  rw [at_e, nI_clamp (by omega)]
theorem at_1 {s i : Nat} (hs : s ≤ 2) (hi : i ≤ 20) : Int32.toNatClampNeg (F_M_at (nI s) (nI i) + 1) = 3 * (21 * s + i) + 1 := by
  rw [at_e, nI_1, nI_clamp (by omega)]
theorem at_2 {s i : Nat} (hs : s ≤ 2) (hi : i ≤ 20) : Int32.toNatClampNeg (F_M_at (nI s) (nI i) + 2) = 3 * (21 * s + i) + 2 := by
  rw [at_e, show (2 : Int32) = nI 2 from rfl, nI_add, nI_clamp (by omega)]
-- the class's state: chance, numbers, signs, starts, used over a ground
def ks (S : SK) (c : Int64) (nm sg ts : Nat → Int32) (us : Int32) : SK := (nm, sg, ts, c, sK_kind S, sK_parts S, us)
theorem ks_eta (S : SK) : ks S (sK_chance S) (sK_numbers S) (sK_signs S) (sK_titleStarts S) (sK_signsUsed S) = S := rfl
section KS
variable (S : SK) (c d : Int64) (nm sg ts x : Nat → Int32) (us y : Int32)
theorem ks_c : sK_chance (ks S c nm sg ts us) = c := Eq.trans rfl rfl
theorem ks_n : sK_numbers (ks S c nm sg ts us) = nm := Eq.trans rfl rfl
theorem ks_g : sK_signs (ks S c nm sg ts us) = sg := Eq.trans rfl rfl
theorem ks_t : sK_titleStarts (ks S c nm sg ts us) = ts := Eq.trans rfl rfl
theorem ks_u : sK_signsUsed (ks S c nm sg ts us) = us := Eq.trans rfl rfl
theorem ks_k : sK_kind (ks S c nm sg ts us) = sK_kind S := Eq.trans rfl rfl
theorem ks_p : sK_parts (ks S c nm sg ts us) = sK_parts S := Eq.trans rfl rfl
theorem ks_uc : uK_chance (ks S c nm sg ts us) d = ks S d nm sg ts us := Eq.trans rfl rfl
theorem ks_un : uK_numbers (ks S c nm sg ts us) x = ks S c x sg ts us := Eq.trans rfl rfl
theorem ks_ug : uK_signs (ks S c nm sg ts us) x = ks S c nm x ts us := Eq.trans rfl rfl
theorem ks_ut : uK_titleStarts (ks S c nm sg ts us) x = ks S c nm sg x us := Eq.trans rfl rfl
theorem ks_uu : uK_signsUsed (ks S c nm sg ts us) y = ks S c nm sg ts y := Eq.trans rfl rfl
theorem ks_nx {n : Int32} {j : Nat} (e : n = nI j) (h0 : 0 < j) (h : j < 2 ^ 31) : F_K_next (ks S c nm sg ts us) n = (rv c j, ks S (nxc c) nm sg ts us) := by
  subst e
  unfold F_K_next
  rw [if_pos (show (1 : Int32) ≤ nI j from nI_le (a := 1) h0 h), ks_c, ks_uc, ← nxc_def, hi31_eq, lN_i, pk_rem (hi31_lt _) h0 h]
  rfl
theorem ks_n3 : F_K_next (ks S c nm sg ts us) 3 = (rv c 3, ks S (nxc c) nm sg ts us) := ks_nx _ _ _ _ _ _ (j := 3) rfl (by decide) (by decide)
theorem ks_n4 : F_K_next (ks S c nm sg ts us) 4 = (rv c 4, ks S (nxc c) nm sg ts us) := ks_nx _ _ _ _ _ _ (j := 4) rfl (by decide) (by decide)
theorem ks_n5 : F_K_next (ks S c nm sg ts us) 5 = (rv c 5, ks S (nxc c) nm sg ts us) := ks_nx _ _ _ _ _ _ (j := 5) rfl (by decide) (by decide)
theorem ks_n6 : F_K_next (ks S c nm sg ts us) 6 = (rv c 6, ks S (nxc c) nm sg ts us) := ks_nx _ _ _ _ _ _ (j := 6) rfl (by decide) (by decide)
theorem ks_n7 : F_K_next (ks S c nm sg ts us) 7 = (rv c 7, ks S (nxc c) nm sg ts us) := ks_nx _ _ _ _ _ _ (j := 7) rfl (by decide) (by decide)
theorem ks_n8 : F_K_next (ks S c nm sg ts us) 8 = (rv c 8, ks S (nxc c) nm sg ts us) := ks_nx _ _ _ _ _ _ (j := 8) rfl (by decide) (by decide)
theorem ks_n9 : F_K_next (ks S c nm sg ts us) 9 = (rv c 9, ks S (nxc c) nm sg ts us) := ks_nx _ _ _ _ _ _ (j := 9) rfl (by decide) (by decide)
theorem ks_n10 : F_K_next (ks S c nm sg ts us) 10 = (rv c 10, ks S (nxc c) nm sg ts us) := ks_nx _ _ _ _ _ _ (j := 10) rfl (by decide) (by decide)
theorem ks_n26 : F_K_next (ks S c nm sg ts us) 26 = (rv c 26, ks S (nxc c) nm sg ts us) := ks_nx _ _ _ _ _ _ (j := 26) rfl (by decide) (by decide)
theorem ks_n60 : F_K_next (ks S c nm sg ts us) 60 = (rv c 60, ks S (nxc c) nm sg ts us) := ks_nx _ _ _ _ _ _ (j := 60) rfl (by decide) (by decide)
theorem ks_n120 : F_K_next (ks S c nm sg ts us) 120 = (rv c 120, ks S (nxc c) nm sg ts us) := ks_nx _ _ _ _ _ _ (j := 120) rfl (by decide) (by decide)
theorem ks_n1000 : F_K_next (ks S c nm sg ts us) 1000 = (rv c 1000, ks S (nxc c) nm sg ts us) := ks_nx _ _ _ _ _ _ (j := 1000) rfl (by decide) (by decide)
end KS
theorem ks_has1 (S : SK) (c : Int64) (nm sg ts : Nat → Int32) (us : Int32) {P i : Nat} (hP : sK_parts S = nI P) (hP2 : P ≤ 21) (hi : i < P) : F_K_has (ks S c nm sg ts us) (nI i) = 1 := by
  unfold F_K_has
  rw [if_neg (nI_pos (by omega)), ks_p, hP, if_neg (nI_ge hi (by omega)), if_neg (show ¬ (21 : Int32) ≤ nI i from nI_ge (b := 21) (by omega) (by decide))]
theorem ks_put (S : SK) (c : Int64) (nm sg ts : Nat → Int32) (us : Int32) {P i : Nat} (hP : sK_parts S = nI P) (hP2 : P ≤ 21) (hi : i < P) (x y z : Int32) : F_K_put (ks S c nm sg ts us) (nI i) x y z = ks S c (upd3 nm i x y z) sg ts us := by
  unfold F_K_put
  rw [ks_has1 S c nm sg ts us hP hP2 hi, if_neg (by decide), ks_n, ks_un, ks_un, ks_un]
  have e0 : Int32.toNatClampNeg (nI i * 3) = 3 * i := by rw [show (3 : Int32) = nI 3 from rfl, pk_mul, nI_clamp (by omega)]; omega
  have e1 : Int32.toNatClampNeg (nI i * 3 + 1) = 3 * i + 1 := by rw [show (3 : Int32) = nI 3 from rfl, pk_mul, nI_1, nI_clamp (by omega)]; omega
  have e2 : Int32.toNatClampNeg (nI i * 3 + 2) = 3 * i + 2 := by rw [kx_n3 i 2 |> (show nI i * 3 + 2 = nI (i * 3 + 2) from ·), nI_clamp (by omega)]; omega
  rw [e0, e1, e2]
  rfl
theorem ks_num (S : SK) (c : Int64) (nm sg ts : Nat → Int32) (us : Int32) {P i : Nat} (hP : sK_parts S = nI P) (hP2 : P ≤ 21) (hi : i < P) {w : Nat} (hw : w < 3) : F_K_number (ks S c nm sg ts us) (nI i) (nI w) = nm (3 * i + w) := by
  unfold F_K_number
  rw [ks_has1 S c nm sg ts us hP hP2 hi, if_neg (by decide), if_neg (nI_pos (by omega)), if_pos (show nI w < 3 from nI_lt (b := 3) hw (by decide)), ks_n, kx_n3, nI_clamp (by omega)]
  congr 1
  omega
-- LINES
noncomputable def pln (c : Int64) : Int64 × Int32 × Int32 × Int32 :=
  if rv (nxc (nxc c)) 4 = 0 then (nxc (nxc (nxc (nxc c))), 1 + rv c 9, rv (nxc c) 1000, 1 + rv (nxc (nxc (nxc c))) 3)
  else (nxc (nxc (nxc c)), 1 + rv c 9, rv (nxc c) 1000, 0)
theorem K_line (S : SK) (c : Int64) (nm sg ts : Nat → Int32) (us : Int32) {P i : Nat} (hP : sK_parts S = nI P) (hP2 : P ≤ 21) (hi : i < P) : F_K_fillLine (ks S c nm sg ts us) (nI i) = ks S (pln c).1 (upd3 nm i (pln c).2.1 (pln c).2.2.1 (pln c).2.2.2) sg ts us := by
  unfold F_K_fillLine pln
  simp only [ks_n9, ks_n1000, ks_n4, ks_n3]
  by_cases h : rv (nxc (nxc c)) 4 = 0
  · simp only [if_pos h, ks_put S _ _ _ _ _ hP hP2 hi]
  · simp only [if_neg h, ks_put S _ _ _ _ _ hP hP2 hi]
theorem M_line (M : SM) (c : Int64) (v t : Nat → Int32) {s i : Nat} (hs : s ≤ 2) (hi : i ≤ 20) (z : Int32) : F_M_part4 (mk M c v t) (nI s) 3 (nI i) z = mk M (pln c).1 (upd3 v (21 * s + i) (pln c).2.1 (pln c).2.2.1 (pln c).2.2.2) t := by
  unfold F_M_part4 pln
  rw [if_neg (show ¬ (3 : Int32) = 0 by decide), if_neg (show ¬ (3 : Int32) = 1 by decide), if_neg (show ¬ (3 : Int32) = 2 by decide), if_pos (show (3 : Int32) = 3 from rfl)]
  simp only [mk_n9, mk_n1000, mk_n4, mk_n3, mk_v, mk_uv, at_0 hs hi, at_1 hs hi, at_2 hs hi]
  by_cases h : rv (nxc (nxc c)) 4 = 0
  · simp only [if_pos h]; rfl
  · simp only [if_neg h]; rfl
