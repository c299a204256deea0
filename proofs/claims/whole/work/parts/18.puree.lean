theorem M_nd (M : SM) (c : Int64) (v t : Nat → Int32) {s i : Nat} (hs : s ≤ 2) (hi : i ≤ 20) : ndM (mk M c v t) (nI s) (nI i) = mk M (nxi (hi31 (nxc c) % 7) (yc c)) (upd (upd v (3 * (21 * s + i)) (rv c 7)) (3 * (21 * s + i) + 1) (yr c)) (ti (hi31 (nxc c) % 7) (yc c) t (126 * s + 6 * i)) := by
  have hm := rv_lt c (show 0 < 7 by decide)
  unfold ndM yr yc
  simp only [mk_n7, mk_n8, mk_n120, mk_v, mk_uv, at_0 hs hi, at_1 hs hi]
  have hvk : ∀ y : Int32, (upd (upd v (3 * (21 * s + i)) (rv c 7)) (3 * (21 * s + i) + 1) y) (3 * (21 * s + i)) = rv c 7 := fun y => by rw [pk_un (by omega), pk_us]
  by_cases h : rv (nxc c) 8 = 0
  · simp only [if_pos h, hvk, at_e]
    exact M_180 M _ hs hi (show hi31 (nxc c) % 7 ≤ 6 by omega) (hvk 0) _ 0 _ _ t (by omega) (fu_ok _ (by omega))
  · simp only [if_neg h, hvk, at_e]
    exact M_180 M _ hs hi (show hi31 (nxc c) % 7 ≤ 6 by omega) (hvk _) _ 0 _ _ t (by omega) (fu_ok _ (by omega))
theorem upd3_perm (f : Nat → Int32) (q : Nat) (x y z : Int32) : upd (upd (upd f (3 * q + 2) z) (3 * q) x) (3 * q + 1) y = upd3 f q x y z := by
  funext j
  unfold upd3
  by_cases h0 : j = 3 * q
  · rw [pk_un (show j ≠ 3 * q + 1 by omega), h0, pk_us, pk_un (by omega), pk_un (by omega), pk_us]
  · by_cases h1 : j = 3 * q + 1
    · rw [h1, pk_us, pk_un (by omega), pk_us]
    · by_cases h2 : j = 3 * q + 2
      · rw [h2, pk_un (by omega), pk_un (by omega), pk_us, pk_us]
      · rw [pk_un h1, pk_un h0, pk_un h2, pk_un h2, pk_un h1, pk_un h0]
-- doubles: the class
/-- r signs copied from place b on to place u on -/
def cp : Nat → (Nat → Int32) → Nat → Nat → (Nat → Int32)
  | 0, sg, _, _ => sg
  | r + 1, sg, u, b => cp r (upd sg u (sg b)) (u + 1) (b + 1)
theorem cp_lo (r : Nat) : ∀ (sg : Nat → Int32) (u b q : Nat), q < u → cp r sg u b q = sg q := by
  induction r with
  | zero => intro sg u b q h; rfl
  | succ r ih => intro sg u b q h; rw [cp, ih _ _ _ _ (by omega), pk_un (by omega)]
theorem cp_in (r : Nat) : ∀ (sg : Nat → Int32) (u b j : Nat), j < r → b + r ≤ u → cp r sg u b (u + j) = sg (b + j) := by
  induction r with
  | zero => intro sg u b j h _; omega
  | succ r ih =>
    intro sg u b j h hb
    rw [cp]
    cases j with
    | zero => rw [cp_lo _ _ _ _ _ (by omega), Nat.add_zero, pk_us, Nat.add_zero]
    | succ j => rw [show u + (j + 1) = u + 1 + j by omega, ih _ _ _ _ (by omega) (by omega), show b + 1 + j = b + (j + 1) by omega, pk_un (by omega)]
theorem ks_sign (S : SK) (c : Int64) (nm sg ts : Nat → Int32) {u k : Nat} (hu : u ≤ 147) (hk : k < u) : F_K_sign (ks S c nm sg ts (nI u)) (nI k) = sg k := by
  unfold F_K_sign
  rw [if_neg (nI_pos (by omega)), ks_u, if_neg (nI_ge hk (by omega)), if_pos (show nI k < 147 from nI_lt (b := 147) (by omega) (by decide)), ks_g, nI_clamp (by omega)]
theorem K_18 (S : SK) (c : Int64) (nm ts : Nat → Int32) {g b m : Nat} (hg : g < 21) (hm : m ≤ 6) (ht : ts g = nI b) : ∀ (r k fuel u : Nat) (sg : Nat → Int32), m = k + r → r < fuel → u + r < 147 → b + m ≤ u → L_K_repeatTitle_18 fuel (ks S c nm sg ts (nI u)) (nI g) (nI m) (nI k) = ks S c nm (cp r sg u (b + k)) ts (nI (u + r)) := by
  intro r
  induction r with
  | zero =>
    intro k fuel u sg h1 h2 h3 h4
    obtain ⟨f, rfl⟩ : ∃ f, fuel = f + 1 := ⟨fuel - 1, by omega⟩
    rw [L_K_repeatTitle_18, if_pos (nI_le (by omega) (by omega)), cp, Nat.add_zero]
  | succ r ih =>
    intro k fuel u sg h1 h2 h3 h4
    obtain ⟨f, rfl⟩ : ∃ f, fuel = f + 1 := ⟨fuel - 1, by omega⟩
    rw [L_K_repeatTitle_18, if_neg (nI_ge (by omega) (by omega)), ks_t, nI_clamp (by omega), ht, nI_add, ks_sign S c nm sg ts (show u ≤ 147 by omega) (show b + k < u by omega), ks_add S c nm sg ts (by omega), nI_1, ih (k + 1) f (u + 1) _ (by omega) (by omega) (by omega) (by omega), cp, show b + (k + 1) = b + k + 1 by omega, show u + 1 + r = u + (r + 1) by omega]
theorem K_db (S : SK) (c : Int64) (nm sg ts : Nat → Int32) {P i u g b m : Nat} (hP : sK_parts S = nI P) (hP2 : P ≤ 21) (hi : i < P) (hg : g < i) (hm : m ≤ 6) (hn : nm (3 * g) = nI m) (ht : ts g = nI b) (hu : u + 6 < 147) (hb : b + m ≤ u) : dbK (nI g, ks S c nm sg ts (nI u)) (nI i) = ks S c (upd3 nm i (nI m) (nm (3 * g + 1)) (nI g)) (upd (cp m sg u b) (u + m) 10) ts (nI (u + m + 1)) := by
  unfold dbK
  rewrite [pr_1, pr_2]
  have e0 : F_K_number (ks S c nm sg ts (nI u)) (nI g) 0 = nI m := by
    rw [show (0 : Int32) = nI 0 from rfl, ks_num S c nm sg ts _ hP hP2 (show g < P by omega) (by decide), Nat.add_zero, hn]
  have e1 : F_K_number (ks S c nm sg ts (nI u)) (nI g) 1 = nm (3 * g + 1) := by
    rw [show (1 : Int32) = nI 1 from rfl, ks_num S c nm sg ts _ hP hP2 (show g < P by omega) (by decide)]
  rewrite [e0, e1, ks_put S c nm sg ts _ hP hP2 hi]
  have h3 : upd3 nm i (nI m) (nm (3 * g + 1)) (nI g) (3 * g) = nI m := by rw [upd3_o _ _ _ _ _ (by omega), hn]
  generalize upd3 nm i (nI m) (nm (3 * g + 1)) (nI g) = nm' at h3 ⊢
  have e2 : F_K_repeatTitle (ks S c nm' sg ts (nI u)) (nI g) = ks S c nm' (cp m sg u b) ts (nI (u + m)) := by
    unfold F_K_repeatTitle
    rewrite [ks_has1 S c nm' sg ts _ hP hP2 (show g < P by omega), if_neg (by decide)]
    have e3 : F_K_number (ks S c nm' sg ts (nI u)) (nI g) 0 = nI m := by
      rw [show (0 : Int32) = nI 0 from rfl, ks_num S c nm' sg ts _ hP hP2 (show g < P by omega) (by decide), Nat.add_zero, h3]
    rewrite [e3]
    exact K_18 S c nm' ts (show g < 21 by omega) hm ht m 0 _ u sg (by omega) (fu_ok m (by omega)) (by omega) hb
  rewrite [e2]
  exact ks_add S c nm' _ ts (by omega) 10
-- doubles: the reference
def tc : Nat → (Nat → Int32) → Nat → Nat → (Nat → Int32)
  | 0, t, _, _ => t
  | r + 1, t, u, b => tc r (upd t u (vp_nar .byte (t b))) (u + 1) (b + 1)
theorem tc_out (r : Nat) : ∀ (t : Nat → Int32) (u b q : Nat), q < u ∨ u + r ≤ q → tc r t u b q = t q := by
  induction r with
  | zero => intro t u b q h; rfl
  | succ r ih => intro t u b q h; rw [tc, ih _ _ _ _ (by omega), pk_un (by omega)]
theorem tc_in (r : Nat) : ∀ (t : Nat → Int32) (u b j : Nat), j < r → b + r ≤ u → tc r t u b (u + j) = vp_nar .byte (t (b + j)) := by
  induction r with
  | zero => intro t u b j h _; omega
  | succ r ih =>
    intro t u b j h hb
    rw [tc]
    cases j with
    | zero => rw [tc_out _ _ _ _ _ (by omega), Nat.add_zero, pk_us, Nat.add_zero]
    | succ j => rw [show u + (j + 1) = u + 1 + j by omega, ih _ _ _ _ (by omega) (by omega), show b + 1 + j = b + (j + 1) by omega, pk_un (by omega)]
theorem M_85 (M : SM) (c : Int64) (v : Nat → Int32) {s i g : Nat} (hs : s ≤ 2) (hi : i ≤ 20) (hg : g ≤ 20) : ∀ (r j fuel : Nat) (t : Nat → Int32), 6 = j + r → r < fuel → L_M_record_85 fuel (mk M c v t) (nI s) (nI i) (nI g) (nI j) = mk M c v (tc r t (126 * s + 6 * i + j) (126 * s + 6 * g + j)) := by
  intro r
  induction r with
  | zero =>
    intro j fuel t h1 h2
    obtain ⟨f, rfl⟩ : ∃ f, fuel = f + 1 := ⟨fuel - 1, by omega⟩
    rw [L_M_record_85, if_pos (show (6 : Int32) ≤ nI j from nI_le (a := 6) (by omega) (by omega)), tc]
  | succ r ih =>
    intro j fuel t h1 h2
    obtain ⟨f, rfl⟩ : ∃ f, fuel = f + 1 := ⟨fuel - 1, by omega⟩
    have e1 : ∀ x : Nat, x ≤ 20 → Int32.toNatClampNeg (((126 * nI s) + (6 * nI x)) + nI j) = 126 * s + 6 * x + j := fun x hx => by
      rw [show (126 : Int32) = nI 126 from rfl, show (6 : Int32) = nI 6 from rfl, pk_mul, pk_mul, nI_add, nI_add, nI_clamp (by omega)]
    rw [L_M_record_85, if_neg (show ¬ (6 : Int32) ≤ nI j from nI_ge (b := 6) (by omega) (by decide)), mk_t, mk_ut, e1 i hi, e1 g hg, nI_1, ih (j + 1) f _ (by omega) (by omega), tc]
    rw [show 126 * s + 6 * i + (j + 1) = 126 * s + 6 * i + j + 1 by omega, show 126 * s + 6 * g + (j + 1) = 126 * s + 6 * g + j + 1 by omega]
theorem M_db (M : SM) (c : Int64) (v t : Nat → Int32) {s i g : Nat} (hs : s ≤ 2) (hi : i ≤ 20) (hg : g < i) : dbM (nI g, mk M c v t) (nI s) (nI i) = mk M c (upd3 v (21 * s + i) (v (3 * (21 * s + g))) (v (3 * (21 * s + g) + 1)) (nI g)) (tc 6 t (126 * s + 6 * i) (126 * s + 6 * g)) := by
  unfold dbM
  simp only [mk_v, mk_uv, at_0 hs hi, at_1 hs hi, at_2 hs hi, at_0 hs (show g ≤ 20 by omega), at_1 hs (show g ≤ 20 by omega)]
  have e0 : (upd v (3 * (21 * s + i) + 2) (nI g)) (3 * (21 * s + g)) = v (3 * (21 * s + g)) := by rw [pk_un (by omega)]
  have e1 : (upd (upd v (3 * (21 * s + i) + 2) (nI g)) (3 * (21 * s + i)) (v (3 * (21 * s + g)))) (3 * (21 * s + g) + 1) = v (3 * (21 * s + g) + 1) := by rw [pk_un (by omega), pk_un (by omega)]
  rewrite [e0, e1, upd3_perm]
  exact M_85 M c _ hs hi (show g ≤ 20 by omega) 6 0 _ t (by omega) (fu_ok 6 (by decide))
