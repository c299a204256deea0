-- FILES
theorem fu_ok (n : Nat) (h : n < 2 ^ 31) : n < ((Int32.toInt (nI n)) - Int32.toInt 0).toNat + 1 := by
  have e0 : Int32.toInt 0 = 0 := by decide
  rw [nI_toInt h, e0]
  omega
theorem sh4 (x : Int32) : ∀ k : Nat, k < 15 → x <<< ((2 * nI k) &&& 31) = x * nI (4 ^ k) := by
  intro k hk
  have h1 : (2 * nI k) &&& 31 = nI (2 * k) := by
    exact (by decide +kernel : ∀ k : Nat, k < 15 → (2 * nI k) &&& 31 = nI (2 * k)) k hk
  have h2 : ((nI (2 * k)).toBitVec.smod 32).toNat = 2 * k := (by decide +kernel : ∀ k : Nat, k < 15 → ((nI (2 * k)).toBitVec.smod 32).toNat = 2 * k) k hk
  rw [h1]
  apply Int32.toBitVec_inj.mp
  apply BitVec.eq_of_toNat_eq
  rw [pk_shl x (nI (2 * k)) (2 * k) h2, Int32.toBitVec_mul, BitVec.toNat_mul]
  have h3 : (nI (4 ^ k)).toBitVec.toNat = 4 ^ k := pk_tn ((by decide +kernel : ∀ k : Nat, k < 15 → 4 ^ k < 2 ^ 32) k hk)
  rw [h3, Nat.pow_mul]
theorem four_succ (k : Nat) : 4 * nI (4 ^ k) = nI (4 ^ (k + 1)) := by
  rw [show (4 : Int32) = nI 4 from rfl, pk_mul, Nat.pow_succ, Nat.mul_comm]
theorem rem2 (i : Nat) (h : i < 2 ^ 31) : nI i - nI i / 2 * 2 = nI (i % 2) := pk_rem (d := 2) h (by decide) (by decide)
theorem rem3 (i : Nat) (h : i < 2 ^ 31) : nI i - nI i / 3 * 3 = nI (i % 3) := pk_rem (d := 3) h (by decide) (by decide)
/-- an even file's digests -/
noncomputable def fe (n : Nat) (w : Int32) : Nat → Nat → Int64 → Int32 → Int64 × Int32
  | 0, _, c, acc => (c, acc)
  | r + 1, k, c, acc => if n / 2 < k then fe n w r (k + 1) (nxc c) (acc + rv c 3 * nI (4 ^ k)) else fe n w r (k + 1) c (acc + w * nI (4 ^ k))
theorem K_fe (S : SK) (nm sg ts : Nat → Int32) (us : Int32) {P i n : Nat} (w : Int32) (hP : sK_parts S = nI P) (hP2 : P ≤ 21) (hi : i < P) (hn : n ≤ 5) : ∀ (r k fuel : Nat) (c : Int64) (acc : Int32), n = k + r → r < fuel → L_K_fillFileWithWinner_27 fuel (ks S c nm sg ts us) (nI i) (nI n) w (nI (n / 2 + 1)) acc (nI k) = ks S (fe n w r k c acc).1 (upd3 nm i (nI n) (fe n w r k c acc).2 0) sg ts us := by
  intro r
  induction r with
  | zero =>
    intro k fuel c acc h1 h2
    obtain ⟨f, rfl⟩ : ∃ f, fuel = f + 1 := ⟨fuel - 1, by omega⟩
    rw [L_K_fillFileWithWinner_27, if_pos (nI_le (by omega) (by omega)), ks_put S _ _ _ _ _ hP hP2 hi]
    rfl
  | succ r ih =>
    intro k fuel c acc h1 h2
    obtain ⟨f, rfl⟩ : ∃ f, fuel = f + 1 := ⟨fuel - 1, by omega⟩
    rw [L_K_fillFileWithWinner_27, if_neg (nI_ge (by omega) (by omega)), fe]
    by_cases h : n / 2 < k
    · rw [if_pos h, if_pos (nI_le (by omega) (by omega)), ks_n3, sh4 _ k (by omega), nI_1, ih (k + 1) f _ _ (by omega) (by omega)]
    · rw [if_neg h, if_neg (nI_ge (by omega) (by omega)), sh4 _ k (by omega), nI_1, ih (k + 1) f _ _ (by omega) (by omega)]
theorem M_fe (M : SM) (v t : Nat → Int32) {q i n : Nat} (w : Int32) (hq : q < 63) (hi : i < 21) (he : i % 2 = 0) (hn : n ≤ 5) : ∀ (r k fuel : Nat) (c : Int64) (acc : Int32), n = k + r → r < fuel → L_M_file_40 fuel (mk M c v t) (nI (3 * q)) (nI i) (nI n) w acc (nI (4 ^ k)) (nI k) = mk M (fe n w r k c acc).1 (upd3 v q (nI n) (fe n w r k c acc).2 0) t := by
  intro r
  induction r with
  | zero =>
    intro k fuel c acc h1 h2
    obtain ⟨f, rfl⟩ : ∃ f, fuel = f + 1 := ⟨fuel - 1, by omega⟩
    rw [L_M_file_40, if_pos (nI_le (by omega) (by omega))]
    simp only [mk_v, mk_uv, nI_1, show nI (3 * q) + 2 = nI (3 * q + 2) from nI_add (3 * q) 2, nI_clamp (show 3 * q < 2 ^ 31 by omega), nI_clamp (show 3 * q + 1 < 2 ^ 31 by omega), nI_clamp (show 3 * q + 2 < 2 ^ 31 by omega)]
    rfl
  | succ r ih =>
    intro k fuel c acc h1 h2
    obtain ⟨f, rfl⟩ : ∃ f, fuel = f + 1 := ⟨fuel - 1, by omega⟩
    have hd : nI n / 2 = nI (n / 2) := pk_div (d := 2) (by omega) (by decide) (by decide)
    rw [L_M_file_40, if_neg (nI_ge (by omega) (by omega)), rem2 i (by omega), he, if_neg (show ¬ nI 0 = 1 by decide), fe, hd]
    by_cases h : n / 2 < k
    · rw [if_pos h, if_pos (nI_lt h (by omega)), mk_n3, four_succ, nI_1, ih (k + 1) f _ _ (by omega) (by omega)]
    · rw [if_neg h, if_neg (nI_nlt (by omega) (by omega)), four_succ, nI_1, ih (k + 1) f _ _ (by omega) (by omega)]
/-- an odd file's digests -/
def fo (d : Nat) : Nat → Nat → Int32 → Int32
  | 0, _, acc => acc
  | r + 1, k, acc => fo d r (k + 1) (acc + nI ((d + k) % 3) * nI (4 ^ k))
theorem K_fo (S : SK) (c : Int64) (nm sg ts : Nat → Int32) (us : Int32) {P i n : Nat} (d : Nat) (hP : sK_parts S = nI P) (hP2 : P ≤ 21) (hi : i < P) (hn : n ≤ 5) : ∀ (r k fuel : Nat) (acc : Int32), n = k + r → r < fuel → L_K_fillFileWithoutWinner_20 fuel (ks S c nm sg ts us) (nI i) (nI n) (nI ((d + k) % 3)) acc (nI k) = ks S c (upd3 nm i (nI n) (fo d r k acc) 0) sg ts us := by
  intro r
  induction r with
  | zero =>
    intro k fuel acc h1 h2
    obtain ⟨f, rfl⟩ : ∃ f, fuel = f + 1 := ⟨fuel - 1, by omega⟩
    rw [L_K_fillFileWithoutWinner_20, if_pos (nI_le (by omega) (by omega)), ks_put S _ _ _ _ _ hP hP2 hi]
    rfl
  | succ r ih =>
    intro k fuel acc h1 h2
    obtain ⟨f, rfl⟩ : ∃ f, fuel = f + 1 := ⟨fuel - 1, by omega⟩
    have hm : (d + k) % 3 < 3 := Nat.mod_lt _ (by decide)
    rw [L_K_fillFileWithoutWinner_20, if_neg (nI_ge (by omega) (by omega)), fo, sh4 _ k (by omega), nI_1]
    by_cases h : (d + k) % 3 = 2
    · rw [if_pos (show nI ((d + k) % 3) = 2 by rw [h]; rfl)]
      have e : (0 : Int32) = nI ((d + (k + 1)) % 3) := by
        rw [show (d + (k + 1)) % 3 = 0 by omega]; rfl
      have h9 := ih (k + 1) f (acc + nI ((d + k) % 3) * nI (4 ^ k)) (by omega) (by omega)
      rw [← e] at h9
      exact h9
    · rw [if_neg (show ¬ nI ((d + k) % 3) = 2 from fun q => h ((nI_eq (a := (d + k) % 3) (b := 2) (by omega) (by decide)).mp q))]
      have e : nI ((d + k) % 3) + 1 = nI ((d + (k + 1)) % 3) := by
        rw [nI_1, show (d + (k + 1)) % 3 = (d + k) % 3 + 1 by omega]
      rw [e, ih (k + 1) f _ (by omega) (by omega)]
theorem M_fo (M : SM) (c : Int64) (v t : Nat → Int32) {q i n : Nat} (d : Nat) (hd : d < 3) (hq : q < 63) (hi : i < 21) (he : i % 2 = 1) (hn : n ≤ 5) : ∀ (r k fuel : Nat) (acc : Int32), n = k + r → r < fuel → L_M_file_40 fuel (mk M c v t) (nI (3 * q)) (nI i) (nI n) (nI d) acc (nI (4 ^ k)) (nI k) = mk M c (upd3 v q (nI n) (fo d r k acc) 0) t := by
  intro r
  induction r with
  | zero =>
    intro k fuel acc h1 h2
    obtain ⟨f, rfl⟩ : ∃ f, fuel = f + 1 := ⟨fuel - 1, by omega⟩
    rw [L_M_file_40, if_pos (nI_le (by omega) (by omega))]
    simp only [mk_v, mk_uv, nI_1, show nI (3 * q) + 2 = nI (3 * q + 2) from nI_add (3 * q) 2, nI_clamp (show 3 * q < 2 ^ 31 by omega), nI_clamp (show 3 * q + 1 < 2 ^ 31 by omega), nI_clamp (show 3 * q + 2 < 2 ^ 31 by omega)]
    rfl
  | succ r ih =>
    intro k fuel acc h1 h2
    obtain ⟨f, rfl⟩ : ∃ f, fuel = f + 1 := ⟨fuel - 1, by omega⟩
    rw [L_M_file_40, if_neg (nI_ge (by omega) (by omega)), rem2 i (by omega), he, if_pos (show nI 1 = 1 from rfl), nI_add, rem3 (d + k) (by omega), four_succ, nI_1, ih (k + 1) f _ (by omega) (by omega), fo]
noncomputable def pf1 (c : Int64) (i : Nat) : Int64 := if i % 2 = 0 then (fe (1 + hi31 (nxc c) % 5) (rv (nxc c) 3) (1 + hi31 (nxc c) % 5) 0 (nxc (nxc c)) 0).1 else nxc (nxc c)
noncomputable def pf2 (c : Int64) (i : Nat) : Int32 := if i % 2 = 0 then nI (1 + hi31 (nxc c) % 5) else nI (2 + hi31 (nxc c) % 4)
noncomputable def pf3 (c : Int64) (i : Nat) : Int32 := if i % 2 = 0 then (fe (1 + hi31 (nxc c) % 5) (rv (nxc c) 3) (1 + hi31 (nxc c) % 5) 0 (nxc (nxc c)) 0).2 else fo (hi31 (nxc (nxc c)) % 3) (2 + hi31 (nxc c) % 4) 0 0
theorem pr_1 {α β : Type} (a : α) (b : β) : (a, b).1 = a := Eq.trans rfl rfl
theorem pr_2 {α β : Type} (a : α) (b : β) : (a, b).2 = b := Eq.trans rfl rfl
theorem fl_e1 (c : Int64) : 1 + rv c 5 = nI (1 + hi31 (nxc c) % 5) := nI_add 1 _
theorem fl_o1 (c : Int64) : 2 + rv c 4 = nI (2 + hi31 (nxc c) % 4) := nI_add 2 _
theorem fl_e2 (c : Int64) : nI (1 + hi31 (nxc c) % 5) / 2 + 1 = nI ((1 + hi31 (nxc c) % 5) / 2 + 1) := by
  have hb := rv_lt c (show 0 < 5 by decide)
  rw [show nI (1 + hi31 (nxc c) % 5) / 2 = nI ((1 + hi31 (nxc c) % 5) / 2) from pk_div (d := 2) (by omega) (by decide) (by decide), nI_1]
theorem fl_o2 (c : Int64) : rv (nxc c) 3 = nI ((hi31 (nxc (nxc c)) % 3 + 0) % 3) := by
  unfold rv
  rw [Nat.add_zero, Nat.mod_mod]
theorem K_fileE (S : SK) (c : Int64) (nm sg ts : Nat → Int32) (us : Int32) {P i : Nat} (hP : sK_parts S = nI P) (hP2 : P ≤ 21) (hi : i < P) : F_K_fillFileWithWinner (ks S c nm sg ts us) (nI i) = ks S (fe (1 + hi31 (nxc c) % 5) (rv (nxc c) 3) (1 + hi31 (nxc c) % 5) 0 (nxc (nxc c)) 0).1 (upd3 nm i (nI (1 + hi31 (nxc c) % 5)) (fe (1 + hi31 (nxc c) % 5) (rv (nxc c) 3) (1 + hi31 (nxc c) % 5) 0 (nxc (nxc c)) 0).2 0) sg ts us := by
  have hb := rv_lt c (show 0 < 5 by decide)
  unfold F_K_fillFileWithWinner
  rw [ks_n5, pr_1, pr_2, ks_n3, pr_1, pr_2, fl_e1, fl_e2]
  exact K_fe S nm sg ts us (rv (nxc c) 3) hP hP2 hi (show 1 + hi31 (nxc c) % 5 ≤ 5 by omega) (1 + hi31 (nxc c) % 5) 0 _ (nxc (nxc c)) 0 (by omega) (fu_ok (1 + hi31 (nxc c) % 5) (by omega))
theorem K_fileO (S : SK) (c : Int64) (nm sg ts : Nat → Int32) (us : Int32) {P i : Nat} (hP : sK_parts S = nI P) (hP2 : P ≤ 21) (hi : i < P) : F_K_fillFileWithoutWinner (ks S c nm sg ts us) (nI i) = ks S (nxc (nxc c)) (upd3 nm i (nI (2 + hi31 (nxc c) % 4)) (fo (hi31 (nxc (nxc c)) % 3) (2 + hi31 (nxc c) % 4) 0 0) 0) sg ts us := by
  have hb := rv_lt c (show 0 < 4 by decide)
  unfold F_K_fillFileWithoutWinner
  rw [ks_n4, pr_1, pr_2, ks_n3, pr_1, pr_2, fl_o1, fl_o2]
  exact K_fo S (nxc (nxc c)) nm sg ts us (hi31 (nxc (nxc c)) % 3) hP hP2 hi (show 2 + hi31 (nxc c) % 4 ≤ 5 by omega) (2 + hi31 (nxc c) % 4) 0 _ 0 (by omega) (fu_ok (2 + hi31 (nxc c) % 4) (by omega))
theorem K_file (S : SK) (c : Int64) (nm sg ts : Nat → Int32) (us : Int32) {P i : Nat} (hP : sK_parts S = nI P) (hP2 : P ≤ 21) (hi : i < P) : F_K_fillFile (ks S c nm sg ts us) (nI i) = ks S (pf1 c i) (upd3 nm i (pf2 c i) (pf3 c i) 0) sg ts us := by
  unfold F_K_fillFile pf1 pf2 pf3
  by_cases h : i % 2 = 0
  · rewrite [rem2 i (by omega), if_pos h, if_pos h, if_pos h, h, if_pos (show nI 0 = 0 from rfl)]
    exact K_fileE S c nm sg ts us hP hP2 hi
  · rewrite [rem2 i (by omega), if_neg h, if_neg h, if_neg h, show i % 2 = 1 by omega, if_neg (show ¬ nI 1 = 0 by decide)]
    exact K_fileO S c nm sg ts us hP hP2 hi
theorem M_fileE (M : SM) (c : Int64) (v t : Nat → Int32) {s i : Nat} (hs : s ≤ 2) (hi : i ≤ 20) (he : i % 2 = 0) : F_M_file (mk M c v t) (nI (3 * (21 * s + i))) (nI i) = mk M (fe (1 + hi31 (nxc c) % 5) (rv (nxc c) 3) (1 + hi31 (nxc c) % 5) 0 (nxc (nxc c)) 0).1 (upd3 v (21 * s + i) (nI (1 + hi31 (nxc c) % 5)) (fe (1 + hi31 (nxc c) % 5) (rv (nxc c) 3) (1 + hi31 (nxc c) % 5) 0 (nxc (nxc c)) 0).2 0) t := by
  have hb := rv_lt c (show 0 < 5 by decide)
  unfold F_M_file
  rw [rem2 i (by omega), he, if_pos (show nI 0 = 0 from rfl), mk_n5, pr_1, pr_2, mk_n3, pr_1, pr_2, fl_e1]
  exact M_fe M v t (rv (nxc c) 3) (show 21 * s + i < 63 by omega) (show i < 21 by omega) he (show 1 + hi31 (nxc c) % 5 ≤ 5 by omega) (1 + hi31 (nxc c) % 5) 0 _ (nxc (nxc c)) 0 (by omega) (fu_ok (1 + hi31 (nxc c) % 5) (by omega))
theorem M_fileO (M : SM) (c : Int64) (v t : Nat → Int32) {s i : Nat} (hs : s ≤ 2) (hi : i ≤ 20) (he : i % 2 = 1) : F_M_file (mk M c v t) (nI (3 * (21 * s + i))) (nI i) = mk M (nxc (nxc c)) (upd3 v (21 * s + i) (nI (2 + hi31 (nxc c) % 4)) (fo (hi31 (nxc (nxc c)) % 3) (2 + hi31 (nxc c) % 4) 0 0) 0) t := by
  have hb := rv_lt c (show 0 < 4 by decide)
  have hd := rv_lt (nxc c) (show 0 < 3 by decide)
  unfold F_M_file
  rw [rem2 i (by omega), he, if_neg (show ¬ nI 1 = 0 by decide), mk_n4, pr_1, pr_2, mk_n3, pr_1, pr_2, fl_o1]
  exact M_fo M (nxc (nxc c)) v t (hi31 (nxc (nxc c)) % 3) hd (show 21 * s + i < 63 by omega) (show i < 21 by omega) he (show 2 + hi31 (nxc c) % 4 ≤ 5 by omega) (2 + hi31 (nxc c) % 4) 0 _ 0 (by omega) (fu_ok (2 + hi31 (nxc c) % 4) (by omega))
theorem M_file (M : SM) (c : Int64) (v t : Nat → Int32) {s i : Nat} (hs : s ≤ 2) (hi : i ≤ 20) (z : Int32) : F_M_part4 (mk M c v t) (nI s) 1 (nI i) z = mk M (pf1 c i) (upd3 v (21 * s + i) (pf2 c i) (pf3 c i) 0) t := by
  unfold F_M_part4 pf1 pf2 pf3
  rewrite [if_neg (show ¬ (1 : Int32) = 0 by decide), if_pos (show (1 : Int32) = 1 from rfl), at_e]
  by_cases h : i % 2 = 0
  · rewrite [if_pos h, if_pos h, if_pos h]
    exact M_fileE M c v t hs hi h
  · rewrite [if_neg h, if_neg h, if_neg h]
    exact M_fileO M c v t hs hi (by omega)
