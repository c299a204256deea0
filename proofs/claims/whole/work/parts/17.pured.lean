-- RECORDS
def ndK (S : SK) (x1 : Int32) : SK :=
    if (F_K_next (F_K_next S 7).2 8).1 = 0 then
      (L_K_fillRecord_76 ((Int32.toInt (F_K_next S 7).1 - Int32.toInt 0).toNat + 1) (F_K_put (F_K_next (F_K_next S 7).2 8).2 x1 (F_K_next S 7).1 0 (-1)) (F_K_next S 7).1 0)
    else
      (L_K_fillRecord_76 ((Int32.toInt (F_K_next S 7).1 - Int32.toInt 0).toNat + 1) (F_K_put (F_K_next (F_K_next (F_K_next S 7).2 8).2 120).2 x1 (F_K_next S 7).1 (1900 + (F_K_next (F_K_next (F_K_next S 7).2 8).2 120).1) (-1)) (F_K_next S 7).1 0)
def dbK (p : Int32 × SK) (x1 : Int32) : SK := (F_K_addSign (F_K_repeatTitle (F_K_put p.2 x1 (F_K_number p.2 p.1 0) (F_K_number p.2 p.1 1) p.1) p.1) 10)
set_option maxRecDepth 100000 in
theorem K_rec (S : SK) (x1 : Int32) : F_K_fillRecord S x1 = if x1 ≤ 0 then ndK (F_K_startTitle S x1) x1 else if (F_K_next (F_K_startTitle S x1) 5).1 = 0 then (if (F_K_next (F_K_next (F_K_startTitle S x1) 5).2 x1).1 = (-1) then ndK (F_K_next (F_K_next (F_K_startTitle S x1) 5).2 x1).2 x1 else dbK (F_K_next (F_K_next (F_K_startTitle S x1) 5).2 x1) x1) else ndK (F_K_next (F_K_startTitle S x1) 5).2 x1 := by
  unfold F_K_fillRecord ndK dbK
  rfl
def ndM (S : SM) (x1 x2 : Int32) : SM :=
    if (F_M_next (uM_values (F_M_next S 7).2 (upd (sM_values (F_M_next S 7).2) (Int32.toNatClampNeg (F_M_at x1 x2)) (F_M_next S 7).1)) 8).1 = 0 then
      (L_M_record_180 ((Int32.toInt (sM_values (uM_values (F_M_next (uM_values (F_M_next S 7).2 (upd (sM_values (F_M_next S 7).2) (Int32.toNatClampNeg (F_M_at x1 x2)) (F_M_next S 7).1)) 8).2 (upd (sM_values (F_M_next (uM_values (F_M_next S 7).2 (upd (sM_values (F_M_next S 7).2) (Int32.toNatClampNeg (F_M_at x1 x2)) (F_M_next S 7).1)) 8).2) (Int32.toNatClampNeg ((F_M_at x1 x2) + 1)) 0)) (Int32.toNatClampNeg (F_M_at x1 x2))) - Int32.toInt 0).toNat + 1) (uM_values (F_M_next (uM_values (F_M_next S 7).2 (upd (sM_values (F_M_next S 7).2) (Int32.toNatClampNeg (F_M_at x1 x2)) (F_M_next S 7).1)) 8).2 (upd (sM_values (F_M_next (uM_values (F_M_next S 7).2 (upd (sM_values (F_M_next S 7).2) (Int32.toNatClampNeg (F_M_at x1 x2)) (F_M_next S 7).1)) 8).2) (Int32.toNatClampNeg ((F_M_at x1 x2) + 1)) 0)) x1 x2 (F_M_at x1 x2) 0)
    else
      (L_M_record_180 ((Int32.toInt (sM_values (uM_values (F_M_next (F_M_next (uM_values (F_M_next S 7).2 (upd (sM_values (F_M_next S 7).2) (Int32.toNatClampNeg (F_M_at x1 x2)) (F_M_next S 7).1)) 8).2 120).2 (upd (sM_values (F_M_next (F_M_next (uM_values (F_M_next S 7).2 (upd (sM_values (F_M_next S 7).2) (Int32.toNatClampNeg (F_M_at x1 x2)) (F_M_next S 7).1)) 8).2 120).2) (Int32.toNatClampNeg ((F_M_at x1 x2) + 1)) (1900 + (F_M_next (F_M_next (uM_values (F_M_next S 7).2 (upd (sM_values (F_M_next S 7).2) (Int32.toNatClampNeg (F_M_at x1 x2)) (F_M_next S 7).1)) 8).2 120).1))) (Int32.toNatClampNeg (F_M_at x1 x2))) - Int32.toInt 0).toNat + 1) (uM_values (F_M_next (F_M_next (uM_values (F_M_next S 7).2 (upd (sM_values (F_M_next S 7).2) (Int32.toNatClampNeg (F_M_at x1 x2)) (F_M_next S 7).1)) 8).2 120).2 (upd (sM_values (F_M_next (F_M_next (uM_values (F_M_next S 7).2 (upd (sM_values (F_M_next S 7).2) (Int32.toNatClampNeg (F_M_at x1 x2)) (F_M_next S 7).1)) 8).2 120).2) (Int32.toNatClampNeg ((F_M_at x1 x2) + 1)) (1900 + (F_M_next (F_M_next (uM_values (F_M_next S 7).2 (upd (sM_values (F_M_next S 7).2) (Int32.toNatClampNeg (F_M_at x1 x2)) (F_M_next S 7).1)) 8).2 120).1))) x1 x2 (F_M_at x1 x2) 0)
def dbM (p : Int32 × SM) (x1 x2 : Int32) : SM := (L_M_record_85 ((Int32.toInt 6 - Int32.toInt 0).toNat + 1) (uM_values (uM_values (uM_values p.2 (upd (sM_values p.2) (Int32.toNatClampNeg ((F_M_at x1 x2) + 2)) p.1)) (upd (upd (sM_values p.2) (Int32.toNatClampNeg ((F_M_at x1 x2) + 2)) p.1) (Int32.toNatClampNeg (F_M_at x1 x2)) ((upd (sM_values p.2) (Int32.toNatClampNeg ((F_M_at x1 x2) + 2)) p.1) (Int32.toNatClampNeg (F_M_at x1 p.1))))) (upd (upd (upd (sM_values p.2) (Int32.toNatClampNeg ((F_M_at x1 x2) + 2)) p.1) (Int32.toNatClampNeg (F_M_at x1 x2)) ((upd (sM_values p.2) (Int32.toNatClampNeg ((F_M_at x1 x2) + 2)) p.1) (Int32.toNatClampNeg (F_M_at x1 p.1)))) (Int32.toNatClampNeg ((F_M_at x1 x2) + 1)) ((upd (upd (sM_values p.2) (Int32.toNatClampNeg ((F_M_at x1 x2) + 2)) p.1) (Int32.toNatClampNeg (F_M_at x1 x2)) ((upd (sM_values p.2) (Int32.toNatClampNeg ((F_M_at x1 x2) + 2)) p.1) (Int32.toNatClampNeg (F_M_at x1 p.1)))) (Int32.toNatClampNeg ((F_M_at x1 p.1) + 1))))) x1 x2 p.1 0)
set_option maxRecDepth 100000 in
theorem M_rec (S : SM) (x1 x2 : Int32) : F_M_record S x1 x2 = if x2 ≤ 0 then ndM (uM_values S (upd (sM_values S) (Int32.toNatClampNeg ((F_M_at x1 x2) + 2)) (-1))) x1 x2 else if (F_M_next S 5).1 = 0 then (if (F_M_next (F_M_next S 5).2 x2).1 < 0 then ndM (uM_values (F_M_next (F_M_next S 5).2 x2).2 (upd (sM_values (F_M_next (F_M_next S 5).2 x2).2) (Int32.toNatClampNeg ((F_M_at x1 x2) + 2)) (F_M_next (F_M_next S 5).2 x2).1)) x1 x2 else dbM (F_M_next (F_M_next S 5).2 x2) x1 x2) else ndM (uM_values (F_M_next S 5).2 (upd (sM_values (F_M_next S 5).2) (Int32.toNatClampNeg ((F_M_at x1 x2) + 2)) (-1))) x1 x2 := by
  unfold F_M_record ndM dbM
  rfl
/-- r steps of chance -/
noncomputable def nxi : Nat → Int64 → Int64
  | 0, c => c
  | r + 1, c => nxi r (nxc c)
theorem nxi_s (r : Nat) : ∀ c, nxi r (nxc c) = nxc (nxi r c) := by
  induction r with
  | zero => intro c; rfl
  | succ r ih => intro c; rw [nxi, ih, nxi]
/-- r letters and the sign 10, from place u on -/
noncomputable def ad : Nat → Int64 → (Nat → Int32) → Nat → (Nat → Int32)
  | 0, _, sg, u => upd sg u 10
  | r + 1, c, sg, u => ad r (nxc c) (upd sg u (97 + rv c 26)) (u + 1)
theorem ad_lo (r : Nat) : ∀ (c : Int64) (sg : Nat → Int32) (u q : Nat), q < u → ad r c sg u q = sg q := by
  induction r with
  | zero => intro c sg u q h; rw [ad, pk_un (by omega)]
  | succ r ih => intro c sg u q h; rw [ad, ih _ _ _ _ (by omega), pk_un (by omega)]
theorem ad_in (r : Nat) : ∀ (c : Int64) (sg : Nat → Int32) (u j : Nat), j < r → ad r c sg u (u + j) = 97 + rv (nxi j c) 26 := by
  induction r with
  | zero => intro c sg u j h; omega
  | succ r ih =>
    intro c sg u j h
    rw [ad]
    cases j with
    | zero => rw [ad_lo _ _ _ _ _ (by omega), Nat.add_zero, pk_us, nxi]
    | succ j => rw [show u + (j + 1) = u + 1 + j by omega, ih _ _ _ _ (by omega), nxi]
theorem ad_end (r : Nat) : ∀ (c : Int64) (sg : Nat → Int32) (u : Nat), ad r c sg u (u + r) = 10 := by
  induction r with
  | zero => intro c sg u; rw [ad, Nat.add_zero, pk_us]
  | succ r ih => intro c sg u; rw [ad, show u + (r + 1) = u + 1 + r by omega, ih]
/-- r letters, from place b on -/
noncomputable def ti : Nat → Int64 → (Nat → Int32) → Nat → (Nat → Int32)
  | 0, _, t, _ => t
  | r + 1, c, t, b => ti r (nxc c) (upd t b (97 + rv c 26)) (b + 1)
theorem ti_out (r : Nat) : ∀ (c : Int64) (t : Nat → Int32) (b q : Nat), q < b ∨ b + r ≤ q → ti r c t b q = t q := by
  induction r with
  | zero => intro c t b q h; rfl
  | succ r ih => intro c t b q h; rw [ti, ih _ _ _ _ (by omega), pk_un (by omega)]
theorem ti_in (r : Nat) : ∀ (c : Int64) (t : Nat → Int32) (b j : Nat), j < r → ti r c t b (b + j) = 97 + rv (nxi j c) 26 := by
  induction r with
  | zero => intro c t b j h; omega
  | succ r ih =>
    intro c t b j h
    rw [ti]
    cases j with
    | zero => rw [ti_out _ _ _ _ _ (by omega), Nat.add_zero, pk_us, nxi]
    | succ j => rw [show b + (j + 1) = b + 1 + j by omega, ih _ _ _ _ (by omega), nxi]
theorem let_ok (c : Int64) : ∃ n, 97 ≤ n ∧ n < 123 ∧ 97 + rv c 26 = nI n := by
  have h := rv_lt c (show 0 < 26 by decide)
  exact ⟨97 + hi31 (nxc c) % 26, by omega, by omega, nI_add 97 _⟩
theorem byte_ok : ∀ n : Nat, n < 128 → vp_nar .byte (nI n) = nI n ∧ (nI n).toInt8.toInt32 = nI n := by decide +kernel
theorem let_byte (c : Int64) : vp_nar .byte (Int32.toInt8 (97 + rv c 26)).toInt32 = 97 + rv c 26 := by
  obtain ⟨n, h1, h2, e⟩ := let_ok c
  rw [e, (byte_ok n (by omega)).2, (byte_ok n (by omega)).1]
theorem ks_add (S : SK) (c : Int64) (nm sg ts : Nat → Int32) {u : Nat} (hu : u < 147) (x : Int32) : F_K_addSign (ks S c nm sg ts (nI u)) x = ks S c nm (upd sg u x) ts (nI (u + 1)) := by
  unfold F_K_addSign
  rw [ks_u, if_neg (nI_pos (by omega)), if_neg (show ¬ (147 : Int32) ≤ nI u from nI_ge (b := 147) hu (by decide)), ks_g, ks_ug, ks_uu, nI_clamp (by omega), nI_1]
theorem K_76 (S : SK) (nm ts : Nat → Int32) {m : Nat} (hm : m ≤ 6) : ∀ (r k fuel u : Nat) (c : Int64) (sg : Nat → Int32), m = k + r → r < fuel → u + r < 147 → L_K_fillRecord_76 fuel (ks S c nm sg ts (nI u)) (nI m) (nI k) = ks S (nxi r c) nm (ad r c sg u) ts (nI (u + r + 1)) := by
  intro r
  induction r with
  | zero =>
    intro k fuel u c sg h1 h2 h3
    obtain ⟨f, rfl⟩ : ∃ f, fuel = f + 1 := ⟨fuel - 1, by omega⟩
    rw [L_K_fillRecord_76, if_pos (nI_le (by omega) (by omega)), ks_add S c nm sg ts (by omega), nxi, ad, Nat.add_zero]
  | succ r ih =>
    intro k fuel u c sg h1 h2 h3
    obtain ⟨f, rfl⟩ : ∃ f, fuel = f + 1 := ⟨fuel - 1, by omega⟩
    rw [L_K_fillRecord_76, if_neg (nI_ge (by omega) (by omega)), ks_n26, pr_1, pr_2, ks_add S _ nm sg ts (by omega), nI_1, ih (k + 1) f (u + 1) _ _ (by omega) (by omega) (by omega), nxi, ad, show u + 1 + r + 1 = u + (r + 1) + 1 by omega]
theorem M_180 (M : SM) (v : Nat → Int32) {s i m : Nat} (hs : s ≤ 2) (hi : i ≤ 20) (hm : m ≤ 6) (hv : v (3 * (21 * s + i)) = nI m) : ∀ (r j fuel : Nat) (c : Int64) (t : Nat → Int32), m = j + r → r < fuel → L_M_record_180 fuel (mk M c v t) (nI s) (nI i) (nI (3 * (21 * s + i))) (nI j) = mk M (nxi r c) v (ti r c t (126 * s + 6 * i + j)) := by
  intro r
  induction r with
  | zero =>
    intro j fuel c t h1 h2
    obtain ⟨f, rfl⟩ : ∃ f, fuel = f + 1 := ⟨fuel - 1, by omega⟩
    rw [L_M_record_180, mk_v, nI_clamp (by omega), hv, if_pos (nI_le (by omega) (by omega)), nxi, ti]
  | succ r ih =>
    intro j fuel c t h1 h2
    obtain ⟨f, rfl⟩ : ∃ f, fuel = f + 1 := ⟨fuel - 1, by omega⟩
    have e1 : Int32.toNatClampNeg (((126 * nI s) + (6 * nI i)) + nI j) = 126 * s + 6 * i + j := by
      rw [show (126 : Int32) = nI 126 from rfl, show (6 : Int32) = nI 6 from rfl, pk_mul, pk_mul, nI_add, nI_add, nI_clamp (by omega)]
    rw [L_M_record_180, mk_v, nI_clamp (by omega), hv, if_neg (nI_ge (by omega) (by omega)), mk_n26, pr_1, pr_2, mk_t, mk_ut, e1, let_byte, nI_1, ih (j + 1) f _ _ (by omega) (by omega), nxi, ti]
    rw [show 126 * s + 6 * i + (j + 1) = 126 * s + 6 * i + j + 1 by omega]
/-- the year of a record, and the chance behind it -/
noncomputable def yr (c : Int64) : Int32 := if rv (nxc c) 8 = 0 then 0 else 1900 + rv (nxc (nxc c)) 120
noncomputable def yc (c : Int64) : Int64 := if rv (nxc c) 8 = 0 then nxc (nxc c) else nxc (nxc (nxc c))
theorem K_nd (S : SK) (c : Int64) (nm sg ts : Nat → Int32) {P i u : Nat} (hP : sK_parts S = nI P) (hP2 : P ≤ 21) (hi : i < P) (hu : u + 6 < 147) : ndK (ks S c nm sg ts (nI u)) (nI i) = ks S (nxi (hi31 (nxc c) % 7) (yc c)) (upd3 nm i (rv c 7) (yr c) (-1)) (ad (hi31 (nxc c) % 7) (yc c) sg u) ts (nI (u + hi31 (nxc c) % 7 + 1)) := by
  have hm := rv_lt c (show 0 < 7 by decide)
  have hfu : hi31 (nxc c) % 7 < (Int32.toInt (rv c 7) - Int32.toInt 0).toNat + 1 := fu_ok _ (by omega)
  unfold ndK yr yc
  rewrite [ks_n7, pr_1, pr_2, ks_n8, pr_1, pr_2]
  generalize (Int32.toInt (rv c 7) - Int32.toInt 0).toNat + 1 = fuel at hfu ⊢
  by_cases h : rv (nxc c) 8 = 0
  · rewrite [if_pos h, if_pos h, if_pos h, ks_put S _ _ _ _ _ hP hP2 hi]
    exact K_76 S _ ts (show hi31 (nxc c) % 7 ≤ 6 by omega) _ 0 fuel u _ sg (by omega) hfu (by omega)
  · rewrite [if_neg h, if_neg h, if_neg h, ks_n120, pr_1, pr_2, ks_put S _ _ _ _ _ hP hP2 hi]
    exact K_76 S _ ts (show hi31 (nxc c) % 7 ≤ 6 by omega) _ 0 fuel u _ sg (by omega) hfu (by omega)
