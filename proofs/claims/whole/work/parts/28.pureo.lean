-- how many bits: the sum over pieces, and one by one
def nv (x : Int32) : Nat := x.toBitVec.toNat
theorem nv_inj {x y : Int32} (h : nv x = nv y) : x = y := Int32.toBitVec_inj.mp (BitVec.eq_of_toNat_eq h)
theorem nv_lt (x : Int32) : nv x < 4294967296 := x.toBitVec.isLt
theorem nv_and (x y : Int32) : nv (x &&& y) = nv x &&& nv y := by unfold nv; rw [Int32.toBitVec_and, BitVec.toNat_and]
theorem nv_add {x y : Int32} (h : nv x + nv y < 4294967296) : nv (x + y) = nv x + nv y := by
  unfold nv at h ⊢
  rw [Int32.toBitVec_add, BitVec.toNat_add]
  exact Nat.mod_eq_of_lt h
theorem nv_sub {x y : Int32} (h : nv y ≤ nv x) : nv (x - y) = nv x - nv y := by
  have hx := nv_lt x
  unfold nv at h hx ⊢
  rw [Int32.toBitVec_sub, BitVec.toNat_sub]
  omega
theorem nv_ushr (x k : Int32) : nv ((Int32.toUInt32 x >>> (Int32.toUInt32 k &&& Int32.toUInt32 31)).toInt32) = nv x / 2 ^ ((Int32.toUInt32 k &&& Int32.toUInt32 31).toNat % 32) := by
  have h : nv ((Int32.toUInt32 x >>> (Int32.toUInt32 k &&& Int32.toUInt32 31)).toInt32) = (Int32.toUInt32 x >>> (Int32.toUInt32 k &&& Int32.toUInt32 31)).toNat := Eq.trans rfl rfl
  rw [h, UInt32.toNat_shiftRight, Nat.shiftRight_eq_div_pow]
  rfl
theorem and_split {a m : Nat} (r M : Nat) (ha : a < 256) (hm : m < 256) : (256 * r + a) &&& (256 * M + m) = 256 * (r &&& M) + (a &&& m) := by
  have hb : a &&& m < 2 ^ 8 := Nat.lt_of_le_of_lt Nat.and_le_left ha
  apply Nat.eq_of_testBit_eq
  intro j
  rw [Nat.testBit_and, show (256 : Nat) = 2 ^ 8 by decide, Nat.testBit_two_pow_mul_add _ (show a < 2 ^ 8 from ha), Nat.testBit_two_pow_mul_add _ (show m < 2 ^ 8 from hm), Nat.testBit_two_pow_mul_add _ hb]
  split
  · rw [Nat.testBit_and]
  · rw [Nat.testBit_and]
def s1 (M n : Nat) : Nat := n - ((n / 2) &&& M)
def s2 (M n : Nat) : Nat := (n &&& M) + ((n / 4) &&& M)
def s3 (M n : Nat) : Nat := (n + n / 16) &&& M
theorem t1 : ∀ a, a < 256 → ∀ k, k < 2 → (128 * k + a / 2) &&& 85 = (a / 2) &&& 85 := by decide +kernel
theorem t2 : ∀ a, a < 256 → ∀ k, k < 4 → (64 * k + a / 4) &&& 51 = (a / 4) &&& 51 := by decide +kernel
theorem t3 : ∀ a, a < 69 → ∀ k, k < 5 → (16 * k + (a + a / 16)) &&& 15 = (a + a / 16) &&& 15 := by decide +kernel
theorem u1 : ∀ a, a < 256 → (a / 2) &&& 85 ≤ a ∧ s1 85 a < 256 ∧ s2 51 (s1 85 a) < 69 ∧ s2 51 (s1 85 a) % 16 < 5 ∧ s3 15 (s2 51 (s1 85 a)) ≤ 8 := by decide +kernel
theorem peel1 (M r : Nat) {a : Nat} (ha : a < 256) : s1 (256 * M + 85) (256 * r + a) = 256 * s1 M r + s1 85 a := by
  have h1 : (256 * r + a) / 2 = 256 * (r / 2) + (128 * (r % 2) + a / 2) := by omega
  have h2 := t1 a ha (r % 2) (by omega)
  have h3 : r / 2 &&& M ≤ r / 2 := Nat.and_le_left
  have h4 := (u1 a ha).1
  unfold s1
  rw [h1, and_split _ _ (by omega) (by decide), h2]
  omega
theorem peel2 (M r : Nat) {a : Nat} (ha : a < 256) : s2 (256 * M + 51) (256 * r + a) = 256 * s2 M r + s2 51 a := by
  have h1 : (256 * r + a) / 4 = 256 * (r / 4) + (64 * (r % 4) + a / 4) := by omega
  have h2 := t2 a ha (r % 4) (by omega)
  unfold s2
  rw [h1, and_split r M ha (by decide), and_split (r / 4) M (by omega) (by decide), h2]
  omega
theorem peel3 (M r : Nat) {a : Nat} (ha : a < 69) (hr : r % 16 < 5) : s3 (256 * M + 15) (256 * r + a) = 256 * s3 M r + s3 15 a := by
  have h1 : 256 * r + a + (256 * r + a) / 16 = 256 * (r + r / 16) + (16 * (r % 16) + (a + a / 16)) := by omega
  have h2 := t3 a ha (r % 16) hr
  unfold s3
  rw [h1, and_split _ _ (by omega) (by decide), h2]
def bs (m : Nat) : Nat → Nat
  | 0 => 0
  | n + 1 => bs m n + m / 2 ^ n % 2
theorem bs_le (m : Nat) : ∀ n, bs m n ≤ n := by
  intro n
  induction n with
  | zero => exact Nat.le_refl _
  | succ n ih => rw [bs]; omega
theorem bs_lo (r : Nat) {a : Nat} : ∀ n, n ≤ 8 → bs (256 * r + a) n = bs a n := by
  intro n
  induction n with
  | zero => intro _; rfl
  | succ n ih =>
    intro h
    rw [bs, bs, ih (by omega)]
    have h1 : (256 * r + a) / 2 ^ n = 2 ^ (8 - n) * r + a / 2 ^ n := by
      rw [show 256 * r = 2 ^ n * (2 ^ (8 - n) * r) by rw [← Nat.mul_assoc, ← Nat.pow_add, show n + (8 - n) = 8 by omega], Nat.mul_add_div (Nat.two_pow_pos n)]
    rw [h1, show 8 - n = (7 - n) + 1 by omega, Nat.pow_succ]
    have : 2 ^ (7 - n) * 2 * r = 2 * (2 ^ (7 - n) * r) := by rw [Nat.mul_comm (2 ^ (7 - n)) 2, Nat.mul_assoc]
    omega
theorem bs_hi (r : Nat) {a : Nat} (ha : a < 256) : ∀ n, bs (256 * r + a) (8 + n) = bs a 8 + bs r n := by
  intro n
  induction n with
  | zero => exact bs_lo r 8 (Nat.le_refl _)
  | succ n ih =>
    show bs (256 * r + a) (8 + n) + (256 * r + a) / 2 ^ (8 + n) % 2 = bs a 8 + (bs r n + r / 2 ^ n % 2)
    rw [ih, Nat.pow_add, ← Nat.div_div_eq_div_mul, show (256 * r + a) / 2 ^ 8 = r by omega]
    omega
theorem q8 : ∀ a, a < 256 → s3 15 (s2 51 (s1 85 a)) = bs a 8 := by decide +kernel
theorem q5 : ∀ a, a < 32 → s3 15 (s2 51 (s1 85 a)) = bs a 5 := by decide +kernel
theorem bitCount_nv (x : Int32) (h : nv x < 2097152) : nv (F_J_bitCount x) = bs (nv x) 21 := by
  obtain ⟨a, b, c, ha, hb, hc, e⟩ : ∃ a b c, a < 256 ∧ b < 256 ∧ c < 32 ∧ nv x = 256 * (256 * c + b) + a := ⟨nv x % 256, nv x / 256 % 256, nv x / 65536, by omega, by omega, by omega, by omega⟩
  have n1 : nv (x - (((Int32.toUInt32 x >>> (Int32.toUInt32 1 &&& Int32.toUInt32 31)).toInt32) &&& 1431655765)) = s1 1431655765 (nv x) := by
    have g : nv (((Int32.toUInt32 x >>> (Int32.toUInt32 1 &&& Int32.toUInt32 31)).toInt32) &&& 1431655765) = nv x / 2 &&& 1431655765 := by
      rw [nv_and, nv_ushr]; rfl
    have g2 : nv x / 2 &&& 1431655765 ≤ nv x / 2 := Nat.and_le_left
    rw [nv_sub (by rw [g]; omega), g]; rfl
  have v1 : s1 1431655765 (nv x) = 256 * (256 * s1 85 c + s1 85 b) + s1 85 a := by
    rw [e, show (1431655765 : Nat) = 256 * (256 * 21845 + 85) + 85 by decide, peel1 _ _ ha, peel1 _ _ hb, show c = 256 * 0 + c by omega, show (21845 : Nat) = 256 * 85 + 85 by decide, peel1 _ _ (by omega : c < 256)]
    simp [s1]
  obtain ⟨_, a1, a2, a3, a4⟩ := u1 a ha
  obtain ⟨_, b1, b2, b3, b4⟩ := u1 b hb
  obtain ⟨_, c1, c2, c3, c4⟩ := u1 c (by omega)
  unfold F_J_bitCount
  generalize x - (((Int32.toUInt32 x >>> (Int32.toUInt32 1 &&& Int32.toUInt32 31)).toInt32) &&& 1431655765) = y at n1 ⊢
  rw [v1] at n1
  have n2 : nv ((y &&& 858993459) + (((Int32.toUInt32 y >>> (Int32.toUInt32 2 &&& Int32.toUInt32 31)).toInt32) &&& 858993459)) = s2 858993459 (nv y) := by
    have g : nv (((Int32.toUInt32 y >>> (Int32.toUInt32 2 &&& Int32.toUInt32 31)).toInt32) &&& 858993459) = nv y / 4 &&& 858993459 := by
      rw [nv_and, nv_ushr]; rfl
    have g3 : nv (y &&& 858993459) = nv y &&& 858993459 := by rw [nv_and]; rfl
    have g2 : nv y / 4 &&& 858993459 ≤ 858993459 := Nat.and_le_right
    have g4 : nv y &&& 858993459 ≤ 858993459 := Nat.and_le_right
    rw [nv_add (by rw [g, g3]; omega), g, g3]; rfl
  have v2 : s2 858993459 (nv y) = 256 * (256 * s2 51 (s1 85 c) + s2 51 (s1 85 b)) + s2 51 (s1 85 a) := by
    rw [n1]
    generalize s1 85 a = a' at *
    generalize s1 85 b = b' at *
    generalize s1 85 c = c' at *
    rw [show (858993459 : Nat) = 256 * (256 * 13107 + 51) + 51 by decide, peel2 _ _ a1, peel2 _ _ b1]
    have := peel2 51 0 c1
    rw [show 256 * 51 + 51 = 13107 by decide, show 256 * 0 + c' = c' by omega, show s2 51 0 = 0 by decide] at this
    rw [this]
    omega
  generalize (y &&& 858993459) + (((Int32.toUInt32 y >>> (Int32.toUInt32 2 &&& Int32.toUInt32 31)).toInt32) &&& 858993459) = z at n2 ⊢
  rw [v2] at n2
  have n3 : nv ((z + ((Int32.toUInt32 z >>> (Int32.toUInt32 4 &&& Int32.toUInt32 31)).toInt32)) &&& 252645135) = s3 252645135 (nv z) := by
    have g : nv ((Int32.toUInt32 z >>> (Int32.toUInt32 4 &&& Int32.toUInt32 31)).toInt32) = nv z / 16 := by
      rw [nv_ushr]; rfl
    rw [nv_and, nv_add (by rw [g, n2]; omega), g]; rfl
  have v3 : s3 252645135 (nv z) = 256 * (256 * s3 15 (s2 51 (s1 85 c)) + s3 15 (s2 51 (s1 85 b))) + s3 15 (s2 51 (s1 85 a)) := by
    rw [n2]
    generalize s2 51 (s1 85 a) = a' at *
    generalize s2 51 (s1 85 b) = b' at *
    generalize s2 51 (s1 85 c) = c' at *
    rw [show (252645135 : Nat) = 256 * (256 * 3855 + 15) + 15 by decide, peel3 _ _ a2 (by omega), peel3 _ _ b2 c3]
    have := peel3 15 0 c2 (by decide)
    rw [show 256 * 15 + 15 = 3855 by decide, show 256 * 0 + c' = c' by omega, show s3 15 0 = 0 by decide] at this
    rw [this]
    omega
  generalize (z + ((Int32.toUInt32 z >>> (Int32.toUInt32 4 &&& Int32.toUInt32 31)).toInt32)) &&& 252645135 = u at n3 ⊢
  rw [v3] at n3
  rw [q8 a ha, q8 b hb, q5 c hc] at n3
  have k1 := bs_le a 8
  have k2 := bs_le b 8
  have k3 := bs_le c 5
  have n4 : nv (u + ((Int32.toUInt32 u >>> (Int32.toUInt32 8 &&& Int32.toUInt32 31)).toInt32)) = nv u + nv u / 256 := by
    have g : nv ((Int32.toUInt32 u >>> (Int32.toUInt32 8 &&& Int32.toUInt32 31)).toInt32) = nv u / 256 := by
      rw [nv_ushr]; rfl
    rw [nv_add (by rw [g, n3]; omega), g]
  generalize u + ((Int32.toUInt32 u >>> (Int32.toUInt32 8 &&& Int32.toUInt32 31)).toInt32) = t at n4 ⊢
  have n5 : nv (t + ((Int32.toUInt32 t >>> (Int32.toUInt32 16 &&& Int32.toUInt32 31)).toInt32)) = nv t + nv t / 65536 := by
    have g : nv ((Int32.toUInt32 t >>> (Int32.toUInt32 16 &&& Int32.toUInt32 31)).toInt32) = nv t / 65536 := by
      rw [nv_ushr]; rfl
    rw [nv_add (by rw [g, n4, n3]; omega), g]
  rw [nv_and, n5, show nv (63 : Int32) = 2 ^ 6 - 1 by decide, Nat.and_two_pow_sub_one_eq_mod, n4, n3, e, show 21 = 8 + (8 + 5) from rfl, bs_hi _ ha, bs_hi _ hb]
  clear n1 v1 n2 v2 n3 v3 n4 n5
  generalize bs a 8 = A at *
  generalize bs b 8 = B at *
  generalize bs c 5 = D at *
  have w1 : (256 * (256 * D + B) + A) / 256 = 256 * D + B := by omega
  rw [w1]
  have w2 : (256 * (256 * D + B) + A + (256 * D + B)) / 65536 = D := by omega
  rw [w2]
  omega
theorem bt2_nv (x : Int32) (j : Nat) : (if bt2 x j = true then 1 else 0) = nv x / 2 ^ j % 2 := by
  have : bt2 x j = (nv x).testBit j := Eq.trans rfl rfl
  rw [this, Nat.testBit_eq_decide_div_mod_eq]
  simp only [decide_eq_true_eq]
  split <;> omega
theorem pc_bs (x : Int32) : ∀ n, pc x n = bs (nv x) n := by
  intro n
  induction n with
  | zero => rfl
  | succ n ih => rw [pc, bs, ih, bt2_nv]
theorem bt_one {n : Nat} (h : n < 32) (x : Int32) : (x >>> (nI n &&& 31)) &&& 1 = nI (if bt2 x n = true then 1 else 0) := by
  by_cases q : bt2 x n = false
  · rw [(sh_bit h x).mpr q, q]
    rfl
  · have q2 : bt2 x n = true := by
      rcases hb : bt2 x n with _ | _
      · exact absurd hb q
      · rfl
    rw [if_pos q2]
    have q3 : ¬ (x >>> (nI n &&& 31)) &&& 1 = 0 := fun z => q ((sh_bit h x).mp z)
    generalize x >>> (nI n &&& 31) = y at *
    have : nv (y &&& 1) = 0 ∨ nv (y &&& 1) = 1 := by
      rw [nv_and, show nv (1 : Int32) = 2 ^ 1 - 1 by decide, Nat.and_two_pow_sub_one_eq_mod]
      omega
    rcases this with k | k
    · exact absurd (nv_inj (x := y &&& 1) (y := 0) k) q3
    · exact nv_inj k
theorem count_pc (x : Int32) : ∀ (n k fuel : Nat), 21 = k + n → n < fuel → L_M_count_4 fuel x (nI (pc x k)) (nI k) = nI (pc x 21) := by
  intro n
  induction n with
  | zero =>
    intro k fuel h1 h2
    obtain ⟨g, rfl⟩ : ∃ f, fuel = f + 1 := ⟨fuel - 1, by omega⟩
    rw [L_M_count_4, if_pos (show (21 : Int32) ≤ nI k from nI_le (a := 21) (by omega) (by omega)), show k = 21 by omega]
  | succ n ih =>
    intro k fuel h1 h2
    obtain ⟨g, rfl⟩ : ∃ f, fuel = f + 1 := ⟨fuel - 1, by omega⟩
    rw [L_M_count_4, if_neg (show ¬ (21 : Int32) ≤ nI k from nI_ge (b := 21) (by omega) (by decide)), bt_one (by omega), nI_add, nI_1]
    exact ih (k + 1) g (by omega) (by omega)
theorem count_eq (x : Int32) (h : ∀ j, 21 ≤ j → bt2 x j = false) : F_J_bitCount x = F_M_count x := by
  have hx : nv x < 2 ^ 21 := by
    apply Nat.lt_pow_two_of_testBit
    intro j hj
    exact h j hj
  have e : F_M_count x = nI (pc x 21) := by
    unfold F_M_count
    exact count_pc x 21 0 _ rfl (by decide)
  rw [e]
  apply nv_inj
  rw [bitCount_nv x hx, ← pc_bs]
  have := pc_n x 21
  exact ((by decide +kernel : ∀ n, n < 22 → nv (nI n) = n) _ (by omega)).symm
theorem op_shorter {L : SD} {M : SM} (h : Big L M) : (F_D_shorter L).1 = (F_M_shorter M).1 ∧ Big (F_D_shorter L).2 (F_M_shorter M).2 := by
  obtain ⟨hs, hD, hl, hN, hT⟩ := id h
  obtain ⟨hk, P, hP2, hP, hPM, hR, hb⟩ := id hD
  have ha : F_K_allParts (sD_drawn L) = F_M_all (uM_thrown M 0) := by
    unfold F_K_allParts F_M_all
    rw [hP, show sM_parts (uM_thrown M 0) = nI P from hPM]
  have hA : ∀ j, P ≤ j → bt2 (F_M_all (uM_thrown M 0)) j = false := fun j hj => by
    unfold F_M_all
    rw [show sM_parts (uM_thrown M 0) = nI P from hPM]
    exact all_out hP2 j hj
  have hV : ∀ x y, F_M_stays (uM_left (uM_thrown M 0) x) y = F_D_staysFor L y := fun x y => (stays_eq (M := uM_left (uM_thrown M 0) x) hN hT y).symm
  have key : ∃ r, F_D_smallerCase L (F_M_all (uM_thrown M 0)) = r ∧ F_M_shorter M = (F_M_count r, uM_left (uM_thrown M 0) r) ∧ ∀ j, P ≤ j → bt2 r j = false := by
    unfold F_D_smallerCase F_M_shorter
    rw [hV]
    have el : sM_left (uM_left (uM_thrown M 0) (F_M_all (uM_thrown M 0))) = F_M_all (uM_thrown M 0) := Eq.trans rfl rfl
    rw [el]
    by_cases q : F_D_staysFor L (F_M_all (uM_thrown M 0)) = 0
    · refine ⟨_, by rw [if_pos q], ?_, hA⟩
      rw [if_pos q, q, L_M_shorter_22, if_pos rfl, el]
    · obtain ⟨r, e1, e2, e3⟩ := sm_loop L (uM_thrown M 0) hP2 hPM hV 21 0 ((Int32.toInt 21 + 1 - Int32.toInt 0).toNat + 1) ((F_M_all (uM_thrown M 0)).toBitVec.toNat + 1 + 1) (F_M_all (uM_thrown M 0)) (pc_n _ _) (by decide) (by decide) (Nat.le_refl _) hA
      refine ⟨r, ?_, ?_, e3⟩
      · rw [if_neg q]; exact e1
      · rw [if_neg q, (bi_staysFor L _).resolve_left q]; exact e2
  obtain ⟨r, e1, e2, e3⟩ := key
  unfold F_D_shorter
  rw [ha, e1, e2]
  exact ⟨count_eq r (fun j hj => e3 j (by omega)), hs, ⟨hk, P, hP2, hP, hPM, hR, e3⟩, rfl, hN, hT⟩
