theorem wb_tb (n : Nat) : (lN n).toBitVec = BitVec.ofNat 64 n := rfl
theorem wb_inj {a b : Int64} (h : a.toBitVec = b.toBitVec) : a = b := Int64.toBitVec_inj.mp h
theorem wb_tn {n : Nat} (h : n < 2 ^ 64) : (lN n).toBitVec.toNat = n := by rw [wb_tb, BitVec.toNat_ofNat, Nat.mod_eq_of_lt h]
theorem wb_of (x : Int64) : ∃ n, n < 2 ^ 64 ∧ x = lN n := ⟨x.toBitVec.toNat, x.toBitVec.isLt, wb_inj (by rw [wb_tb]; simp)⟩
theorem wb_of32 (x : Int32) : ∃ n, n < 2 ^ 32 ∧ x = nI n := ⟨x.toBitVec.toNat, x.toBitVec.isLt, Int32.toBitVec_inj.mp (by show _ = BitVec.ofNat 32 _; simp)⟩
theorem wb_c : ∀ k, k < 64 → ((nI k).toInt64 &&& 63) = lN k := by decide +kernel
theorem wb_cu : ∀ k, k < 64 → ((nI k).toInt64.toUInt64 &&& Int64.toUInt64 63) = UInt64.ofNat k := by decide +kernel
theorem wb_sm : ∀ k, k < 64 → (BitVec.ofNat 64 k).smod 64 = BitVec.ofNat 64 k := by decide +kernel
theorem wb_pw {a b : Nat} (h : a ≤ b) : 2 ^ b = 2 ^ a * 2 ^ (b - a) := by rw [← Nat.pow_add]; congr 1; omega
theorem wb_lt2 {a b : Nat} (h : a < b) : 2 ^ a < 2 ^ b := Nat.pow_lt_pow_right (by decide) h
theorem wb_mod (n : Nat) : lN n = lN (n % 2 ^ 64) := wb_inj (by rw [wb_tb, wb_tb]; apply BitVec.eq_of_toNat_eq; rw [BitVec.toNat_ofNat, BitVec.toNat_ofNat, Nat.mod_mod])
theorem wb_shr {n k : Nat} (hn : n < 2 ^ 64) (hk : k < 64) : ((lN n).toUInt64 >>> ((nI k).toInt64.toUInt64 &&& Int64.toUInt64 63)).toInt64 = lN (n / 2 ^ k) := by
  rw [wb_cu k hk]
  apply wb_inj
  apply BitVec.eq_of_toNat_eq
  show ((lN n).toUInt64 >>> UInt64.ofNat k).toNat = (BitVec.ofNat 64 _).toNat
  have h1 : (UInt64.ofNat k).toNat = k := by
    show (BitVec.ofNat 64 k).toNat = k
    rw [BitVec.toNat_ofNat, Nat.mod_eq_of_lt (by omega)]
  have h2 : (lN n).toUInt64.toNat = n := wb_tn hn
  rw [UInt64.toNat_shiftRight, h1, h2, Nat.mod_eq_of_lt hk, Nat.shiftRight_eq_div_pow, BitVec.toNat_ofNat, Nat.mod_eq_of_lt (Nat.lt_of_le_of_lt (Nat.div_le_self _ _) hn)]

/-- a number between two bounds -/
def zr (x : Int32) (lo hi : Nat) : Prop := ∃ j : Nat, x = nI j ∧ lo ≤ j ∧ j ≤ hi
theorem zr_c (n : Nat) : zr (nI n) n n := ⟨n, rfl, Nat.le_refl _, Nat.le_refl _⟩
theorem zr_k {x : Int32} (n : Nat) (h : x = nI n) : zr x n n := ⟨n, h, Nat.le_refl _, Nat.le_refl _⟩
theorem zr_add {x y : Int32} {a b c d : Nat} (h1 : zr x a b) (h2 : zr y c d) : zr (x + y) (a + c) (b + d) := by
  obtain ⟨i, rfl, h3, h4⟩ := h1
  obtain ⟨j, rfl, h5, h6⟩ := h2
  exact ⟨i + j, nI_add i j, by omega, by omega⟩
theorem zr_mul {x y : Int32} {a b c d : Nat} (h1 : zr x a b) (h2 : zr y c d) : zr (x * y) (a * c) (b * d) := by
  obtain ⟨i, rfl, h3, h4⟩ := h1
  obtain ⟨j, rfl, h5, h6⟩ := h2
  exact ⟨i * j, pk_mul i j, Nat.mul_le_mul h3 h5, Nat.mul_le_mul h4 h6⟩
theorem zr_sub {x y : Int32} {a b c d : Nat} (h1 : zr x a b) (h2 : zr y c d) (h : d ≤ a) : zr (x - y) (a - d) (b - c) := by
  obtain ⟨i, rfl, h3, h4⟩ := h1
  obtain ⟨j, rfl, h5, h6⟩ := h2
  exact ⟨i - j, pk_sub (by omega), by omega, by omega⟩
theorem zr_div {x y : Int32} {a b c d : Nat} (h1 : zr x a b) (h2 : zr y c d) (h : 1 ≤ c) (hb : b < 2 ^ 31) (hd : d < 2 ^ 31) : zr (x / y) 0 b := by
  obtain ⟨i, rfl, h3, h4⟩ := h1
  obtain ⟨j, rfl, h5, h6⟩ := h2
  exact ⟨i / j, pk_div (by omega) (by omega) (by omega), Nat.zero_le _, Nat.le_trans (Nat.div_le_self i j) h4⟩
theorem zr_in {x : Int32} {lo hi N : Nat} (h : zr x lo hi) (h1 : hi < N) (h2 : N < 2 ^ 31) : vp_in x N := by
  obtain ⟨j, rfl, h3, h4⟩ := h
  exact vp_in_nI (by omega) h2
theorem zr_ne {x : Int32} {lo hi : Nat} (h : zr x lo hi) (h1 : 1 ≤ lo) (h2 : hi < 2 ^ 31) : ¬ x = 0 := by
  obtain ⟨j, rfl, h3, h4⟩ := h
  exact nI_ne0 (by omega) (by omega)
theorem zr_pos {x : Int32} {hi : Nat} (h : ¬ x ≤ 0) (h1 : zr x 0 hi) : zr x 1 hi := by
  obtain ⟨j, rfl, h3, h4⟩ := h1
  refine ⟨j, rfl, ?_, h4⟩
  rcases Nat.eq_zero_or_pos j with q | q
  · subst q; exact absurd (by decide) h
  · exact q
theorem zr_nz {x : Int32} {hi : Nat} (h : ¬ x = 0) (h1 : zr x 0 hi) : zr x 1 hi := by
  obtain ⟨j, rfl, h3, h4⟩ := h1
  refine ⟨j, rfl, ?_, h4⟩
  rcases Nat.eq_zero_or_pos j with q | q
  · subst q; exact absurd rfl h
  · exact q
theorem zr_nn {x : Int32} {lo hi : Nat} (h : zr x lo hi) (h1 : hi < 2 ^ 31) : ¬ x < 0 := by
  obtain ⟨j, rfl, h3, h4⟩ := h
  exact nI_pos (by omega)
theorem zr_lt {x b : Int32} {lo hi : Nat} (hn : ¬ x < 0) (h : ¬ b ≤ x) (hb : zr b lo hi) (hh : hi < 2 ^ 31) : zr x 0 (hi - 1) := by
  obtain ⟨j, rfl, h3, h4⟩ := hb
  obtain ⟨i, hi2, rfl⟩ := nI_of hn
  have : i < j := by
    rcases Nat.lt_or_ge i j with q | q
    · exact q
    · exact absurd (nI_le q hi2) h
  exact ⟨i, rfl, by omega, by omega⟩
theorem zr_le {x b : Int32} {lo hi : Nat} (hn : ¬ x < 0) (h : ¬ b < x) (hb : zr b lo hi) (hh : hi < 2 ^ 31) : zr x 0 hi := by
  obtain ⟨j, rfl, h3, h4⟩ := hb
  obtain ⟨i, hi2, rfl⟩ := nI_of hn
  have : i ≤ j := by
    rcases Nat.lt_or_ge j i with q | q
    · exact absurd (nI_lt q hi2) h
    · exact q
  exact ⟨i, rfl, by omega, by omega⟩
theorem zr_wide {x : Int32} {lo hi lo' hi' : Nat} (h : zr x lo hi) (h1 : lo' ≤ lo) (h2 : hi ≤ hi') : zr x lo' hi' := by
  obtain ⟨j, rfl, h3, h4⟩ := h
  exact ⟨j, rfl, by omega, by omega⟩
theorem zr_top {x : Int32} {lo hi : Nat} (h : zr x lo hi) (h1 : hi < 2147483647) : x.toInt < 2147483647 := by
  obtain ⟨j, rfl, h3, h4⟩ := h
  rw [nI_toInt (by omega)]
  omega
theorem zi64_ne {x : Int32} (h : ¬ x = 0) : ¬ x.toInt64 = 0 := by
  intro q
  apply h
  have : x.toInt64.toInt = (0 : Int64).toInt := by rw [q]
  rw [Int32.toInt_toInt64] at this
  exact Int32.toInt_inj.mp this

def F_M_in (x0 : Int32) (x1 : Int32) (x2 : Int32) : Int32 :=
  if x0 < x1 then
    0
  else
    if x2 < x0 then
      0
    else
      1
set_option maxRecDepth 100000 in
set_option maxHeartbeats 4000000 in
theorem c_M_in (G : zG) (l : Launch) (x0 : Int32) (x1 : Int32) (x2 : Int32)  : zM G l y_M_in b_M_in 3 (some .boolean) (zR 0 0) [.int x0, .int x1, .int x2] ([]) (fun r1 w1 => r1 = some (.int (F_M_in x0 x1 x2)) ∧ w1 = []) := by
  generalize hPost : (fun (r1 : Option Value) (w1 : va_W) => r1 = some (.int (F_M_in x0 x1 x2)) ∧ w1 = []) = Post
  have hq : Post (some (.int (F_M_in x0 x1 x2))) ([]) := by rw [← hPost]; exact ⟨rfl, rfl⟩
  clear hPost
  refine zM_of (by decide) (Nat.le_of_ble_eq_true rfl) ?_
  intro p e s m args below meth c C hlk hr hin
  refine z_iload_n C 1 d_M_in_0 rfl rfl ?_
  refine z_iload_n C 2 d_M_in_1 rfl rfl ?_
  refine z_icmp_lt C 14 5 d_M_in_2 (by decide) rfl (fun c_2 => ?_) (fun c_2 => ?_)
  · refine z_iconst C 0 15 d_M_in_14 rfl (by decide) ?_
    exact z_zret C hlk rfl hr d_M_in_15 (by rw [show F_M_in x0 x1 x2 = 0 from by rw [F_M_in, if_pos c_2]] at hq; exact hq)
  · refine z_iload_n C 6 d_M_in_5 rfl rfl ?_
    refine z_iload_n C 7 d_M_in_6 rfl rfl ?_
    refine z_icmp_gt C 14 10 d_M_in_7 (by decide) rfl (fun c_7 => ?_) (fun c_7 => ?_)
    · refine z_iconst C 0 15 d_M_in_14 rfl (by decide) ?_
      exact z_zret C hlk rfl hr d_M_in_15 (by rw [show F_M_in x0 x1 x2 = 0 from by rw [F_M_in, if_neg c_2, if_pos c_7]] at hq; exact hq)
    · refine z_iconst C 1 11 d_M_in_10 rfl (by decide) ?_
      refine z_goto C 15 d_M_in_11 (by decide) ?_
      exact z_zret C hlk rfl hr d_M_in_15 (by rw [show F_M_in x0 x1 x2 = 1 from by rw [F_M_in, if_neg c_2, if_neg c_7]] at hq; exact hq)

def F_M_at (x0 : Int32) (x1 : Int32) : Int32 :=
  ((63 * x0) + (3 * x1))
set_option maxRecDepth 100000 in
set_option maxHeartbeats 4000000 in
theorem c_M_at (G : zG) (l : Launch) (x0 : Int32) (x1 : Int32)  : zM G l y_M_at b_M_at 2 (some .int) (zR 0 0) [.int x0, .int x1] ([]) (fun r1 w1 => r1 = some (.int (F_M_at x0 x1)) ∧ w1 = []) := by
  generalize hPost : (fun (r1 : Option Value) (w1 : va_W) => r1 = some (.int (F_M_at x0 x1)) ∧ w1 = []) = Post
  have hq : Post (some (.int (F_M_at x0 x1))) ([]) := by rw [← hPost]; exact ⟨rfl, rfl⟩
  clear hPost
  refine zM_of (by decide) (Nat.le_of_ble_eq_true rfl) ?_
  intro p e s m args below meth c C hlk hr hin
  refine z_bipush C 63 2 d_M_at_0 rfl (by decide) ?_
  refine z_iload_n C 3 d_M_at_2 rfl rfl ?_
  refine z_imul C 4 d_M_at_3 rfl ?_
  refine z_iconst C 3 5 d_M_at_4 rfl (by decide) ?_
  refine z_iload_n C 6 d_M_at_5 rfl rfl ?_
  refine z_imul C 7 d_M_at_6 rfl ?_
  refine z_iadd C 8 d_M_at_7 rfl ?_
  exact z_iret C hlk hr d_M_at_8 (by rw [show F_M_at x0 x1 = ((63 * x0) + (3 * x1)) from by rw [F_M_at]] at hq; exact hq)

def F_M_can (x0 : Int32) (x1 : Int32) : Int32 :=
  if (F_M_in x0 0 5) = 0 then
    0
  else
    if (F_M_in x1 0 20) = 0 then
      0
    else
      1
set_option maxRecDepth 100000 in
set_option maxHeartbeats 4000000 in
theorem c_M_can (G : zG) (l : Launch) (x0 : Int32) (x1 : Int32)  : zM G l y_M_can b_M_can 2 (some .boolean) (zR 1 22) [.int x0, .int x1] ([]) (fun r1 w1 => r1 = some (.int (F_M_can x0 x1)) ∧ w1 = []) := by
  generalize hPost : (fun (r1 : Option Value) (w1 : va_W) => r1 = some (.int (F_M_can x0 x1)) ∧ w1 = []) = Post
  have hq : Post (some (.int (F_M_can x0 x1))) ([]) := by rw [← hPost]; exact ⟨rfl, rfl⟩
  clear hPost
  refine zM_of (by decide) (Nat.le_of_ble_eq_true rfl) ?_
  intro p e s m args below meth c C hlk hr hin
  refine z_iload_n C 1 d_M_can_0 rfl rfl ?_
  refine z_iconst C 0 2 d_M_can_1 rfl (by decide) ?_
  refine z_iconst C 5 3 d_M_can_2 rfl (by decide) ?_
  refine z_goA C (z_S C kc_M_61 (c_M_in G l x0 0 5) (st := []) rfl rfl (Nat.le_of_ble_eq_true rfl) ⟨⟨Nat.le_of_ble_eq_true rfl, Nat.le_of_ble_eq_true rfl⟩, Nat.le_of_ble_eq_true rfl, Nat.le_of_ble_eq_true rfl⟩ d_M_can_3) [.int (F_M_in x0 0 5)] 6 rfl rfl ?_
  refine z_if_eq C 23 9 d_M_can_6 (by decide) rfl (fun c_6 => ?_) (fun c_6 => ?_)
  · refine z_iconst C 0 24 d_M_can_23 rfl (by decide) ?_
    exact z_zret C hlk rfl hr d_M_can_24 (by rw [show F_M_can x0 x1 = 0 from by rw [F_M_can, if_pos c_6]] at hq; exact hq)
  · refine z_iload_n C 10 d_M_can_9 rfl rfl ?_
    refine z_iconst C 0 11 d_M_can_10 rfl (by decide) ?_
    refine z_bipush C 20 13 d_M_can_11 rfl (by decide) ?_
    refine z_goA C (z_S C kc_M_61 (c_M_in G l x1 0 20) (st := []) rfl rfl (Nat.le_of_ble_eq_true rfl) ⟨⟨Nat.le_of_ble_eq_true rfl, Nat.le_of_ble_eq_true rfl⟩, Nat.le_of_ble_eq_true rfl, Nat.le_of_ble_eq_true rfl⟩ d_M_can_13) [.int (F_M_in x1 0 20)] 16 rfl rfl ?_
    refine z_if_eq C 23 19 d_M_can_16 (by decide) rfl (fun c_16 => ?_) (fun c_16 => ?_)
    · refine z_iconst C 0 24 d_M_can_23 rfl (by decide) ?_
      exact z_zret C hlk rfl hr d_M_can_24 (by rw [show F_M_can x0 x1 = 0 from by rw [F_M_can, if_neg c_6, if_pos c_16]] at hq; exact hq)
    · refine z_iconst C 1 20 d_M_can_19 rfl (by decide) ?_
      refine z_goto C 24 d_M_can_20 (by decide) ?_
      exact z_zret C hlk rfl hr d_M_can_24 (by rw [show F_M_can x0 x1 = 1 from by rw [F_M_can, if_neg c_6, if_neg c_16]] at hq; exact hq)

def F_M_next (S : SM) (x1 : Int32) : Int32 × SM :=
  ((Int64.toInt32 (((Int64.toUInt64 (((sM_chance S) * 6364136223846793005) + 1442695040888963407) >>> ((Int32.toInt64 33).toUInt64 &&& Int64.toUInt64 63)).toInt64) - ((Int64.toUInt64 (((sM_chance S) * 6364136223846793005) + 1442695040888963407) >>> ((Int32.toInt64 33).toUInt64 &&& Int64.toUInt64 63)).toInt64) / (Int32.toInt64 x1) * (Int32.toInt64 x1))), (uM_chance S (((sM_chance S) * 6364136223846793005) + 1442695040888963407)))
set_option maxRecDepth 100000 in
set_option maxHeartbeats 4000000 in
theorem c_M_next (G : zG) (l : Launch) (a : Nat → Nat) (S : SM) (x1 : Int32) (hn : ¬ x1 = 0) : zM G l y_M_next b_M_next 2 (some .int) (zR 0 0) [.ref (a 0), .int x1] (wM G a S) (fun r1 w1 => r1 = some (.int (F_M_next S x1).1) ∧ w1 = wM G a (F_M_next S x1).2) := by
  generalize hPost : (fun (r1 : Option Value) (w1 : va_W) => r1 = some (.int (F_M_next S x1).1) ∧ w1 = wM G a (F_M_next S x1).2) = Post
  have hq : Post (some (.int (F_M_next S x1).1)) (wM G a (F_M_next S x1).2) := by rw [← hPost]; exact ⟨rfl, rfl⟩
  clear hPost
  refine zM_of (by decide) (Nat.le_of_ble_eq_true rfl) ?_
  intro p e s m args below meth c C hlk hr hin
  refine z_aload_n C 1 d_M_next_0 rfl rfl ?_
  refine z_aload_n C 2 d_M_next_1 rfl rfl ?_
  refine z_get C kf_M_31 0 (v := .long (sM_chance S)) 5 d_M_next_2 rfl rfl rfl ?_
  refine z_ldc2 C 6364136223846793005 8 d_M_next_5 rfl kk_M_34 ?_
  refine z_lmul C 9 d_M_next_8 rfl ?_
  refine z_ldc2 C 1442695040888963407 12 d_M_next_9 rfl kk_M_36 ?_
  refine z_ladd C 13 d_M_next_12 rfl ?_
  refine z_put C kf_M_31 kp_M 0 (wM G a (uM_chance S (((sM_chance S) * 6364136223846793005) + 1442695040888963407))) 16 d_M_next_13 rfl rfl rfl (znr_l _) (zft_l _) (Nat.le_of_ble_eq_true rfl) (wM_put_chance G a S (((sM_chance S) * 6364136223846793005) + 1442695040888963407)) ?_
  refine z_aload_n C 17 d_M_next_16 rfl rfl ?_
  refine z_get C kf_M_31 0 (v := .long (((sM_chance S) * 6364136223846793005) + 1442695040888963407)) 20 d_M_next_17 rfl rfl rfl ?_
  refine z_bipush C 33 22 d_M_next_20 rfl (by decide) ?_
  refine z_lushr C 23 d_M_next_22 rfl ?_
  refine z_iload_n C 24 d_M_next_23 rfl rfl ?_
  refine z_i2l C 25 d_M_next_24 rfl ?_
  refine z_lrem C 26 d_M_next_25 rfl (zi64_ne hn) ?_
  refine z_l2i C 27 d_M_next_26 rfl ?_
  exact z_iret C hlk hr d_M_next_27 (by rw [show F_M_next S x1 = ((Int64.toInt32 (((Int64.toUInt64 (((sM_chance S) * 6364136223846793005) + 1442695040888963407) >>> ((Int32.toInt64 33).toUInt64 &&& Int64.toUInt64 63)).toInt64) - ((Int64.toUInt64 (((sM_chance S) * 6364136223846793005) + 1442695040888963407) >>> ((Int32.toInt64 33).toUInt64 &&& Int64.toUInt64 63)).toInt64) / (Int32.toInt64 x1) * (Int32.toInt64 x1))), (uM_chance S (((sM_chance S) * 6364136223846793005) + 1442695040888963407))) from by rw [F_M_next]] at hq; exact hq)

def F_M_all (S : SM)  : Int32 :=
  ((1 <<< ((sM_parts S) &&& 31)) - 1)
set_option maxRecDepth 100000 in
set_option maxHeartbeats 4000000 in
theorem c_M_all (G : zG) (l : Launch) (a : Nat → Nat) (S : SM)   : zM G l y_M_all b_M_all 1 (some .int) (zR 0 0) [.ref (a 0)] (wM G a S) (fun r1 w1 => r1 = some (.int (F_M_all S)) ∧ w1 = wM G a S) := by
  generalize hPost : (fun (r1 : Option Value) (w1 : va_W) => r1 = some (.int (F_M_all S)) ∧ w1 = wM G a S) = Post
  have hq : Post (some (.int (F_M_all S))) (wM G a S) := by rw [← hPost]; exact ⟨rfl, rfl⟩
  clear hPost
  refine zM_of (by decide) (Nat.le_of_ble_eq_true rfl) ?_
  intro p e s m args below meth c C hlk hr hin
  refine z_iconst C 1 1 d_M_all_0 rfl (by decide) ?_
  refine z_aload_n C 2 d_M_all_1 rfl rfl ?_
  refine z_get C kf_M_65 0 (v := .int (sM_parts S)) 5 d_M_all_2 rfl rfl rfl ?_
  refine z_ishl C 6 d_M_all_5 rfl ?_
  refine z_iconst C 1 7 d_M_all_6 rfl (by decide) ?_
  refine z_isub C 8 d_M_all_7 rfl ?_
  exact z_iret C hlk hr d_M_all_8 (by rw [show F_M_all S = ((1 <<< ((sM_parts S) &&& 31)) - 1) from by rw [F_M_all]] at hq; exact hq)

def F_M_isPart (S : SM) (x1 : Int32) : Int32 :=
  (F_M_in x1 0 ((sM_parts S) - 1))


theorem zr_at {x y : Int32} {a b c d : Nat} (h1 : zr x a b) (h2 : zr y c d) : zr (F_M_at x y) (63 * a + 3 * c) (63 * b + 3 * d) := zr_add (zr_mul (zr_k 63 rfl) h1) (zr_mul (zr_k 3 rfl) h2)
theorem hi31_ex : ∃ f : Int64 → Nat, ∀ c : Int64, f c = c.toBitVec.toNat / 2 ^ 33 := ⟨fun c => c.toBitVec.toNat / 2 ^ 33, fun _ => rfl⟩
/-- the highest 31 bits (chosen, so that nothing unfolds them) -/
noncomputable def hi31 : Int64 → Nat := Classical.choose hi31_ex
theorem hi31_def (c : Int64) : hi31 c = c.toBitVec.toNat / 2 ^ 33 := Classical.choose_spec hi31_ex c
theorem hi31_lt (c : Int64) : hi31 c < 2 ^ 31 := by
  have h := c.toBitVec.isLt
  rw [hi31_def]
  omega
theorem hi31_eq (c : Int64) : (c.toUInt64 >>> ((33 : Int32).toInt64.toUInt64 &&& Int64.toUInt64 63)).toInt64 = lN (hi31 c) := by
  obtain ⟨n, hn, rfl⟩ := wb_of c
  rw [hi31_def, wb_tn hn]
  exact wb_shr (k := 33) hn (by decide)
theorem nxc_ex : ∃ f : Int64 → Int64, ∀ c : Int64, f c = c * 6364136223846793005 + 1442695040888963407 := ⟨fun c => c * 6364136223846793005 + 1442695040888963407, fun _ => rfl⟩
/-- chance's next -/
noncomputable def nxc : Int64 → Int64 := Classical.choose nxc_ex
theorem nxc_def (c : Int64) : nxc c = c * 6364136223846793005 + 1442695040888963407 := Classical.choose_spec nxc_ex c
theorem M_next_eq (S : SM) {n : Int32} {j : Nat} (e : n = nI j) (h0 : 0 < j) (h : j < 2 ^ 31) : F_M_next S n = (nI (hi31 (nxc (sM_chance S)) % j), uM_chance S (nxc (sM_chance S))) := by
  subst e
  unfold F_M_next
  rw [← nxc_def, hi31_eq, nI_l h, pk_lRem (Nat.lt_trans (hi31_lt _) (by decide)) h0 (by omega), lN_i]
theorem zr_next (S : SM) {n : Int32} {lo hi : Nat} (h : zr n lo hi) (h1 : 1 ≤ lo) (h2 : hi < 2 ^ 31) : zr (F_M_next S n).1 0 (hi - 1) := by
  obtain ⟨j, e, h3, h4⟩ := h
  rw [M_next_eq S e (by omega) (by omega)]
  have := Nat.mod_lt (hi31 (nxc (sM_chance S))) (show 0 < j by omega)
  exact ⟨_, rfl, Nat.zero_le _, by omega⟩
theorem bi_in (x y z : Int32) : F_M_in x y z = 0 ∨ F_M_in x y z = 1 := by
  unfold F_M_in
  (repeat' split) <;> simp
theorem zr_inM {x z : Int32} {hi : Nat} (h : ¬ F_M_in x 0 z = 0) (hz : zr z 0 hi) (hh : hi < 2 ^ 31) : zr x 0 hi := by
  unfold F_M_in at h
  by_cases h1 : x < 0
  · rw [if_pos h1] at h; exact absurd rfl h
  · rw [if_neg h1] at h
    by_cases h2 : z < x
    · rw [if_pos h2] at h; exact absurd rfl h
    · exact zr_le h1 h2 hz hh
theorem zr_can {x z : Int32} (h : ¬ F_M_can x z = 0) : zr z 0 20 := by
  unfold F_M_can at h
  by_cases h1 : F_M_in x 0 5 = 0
  · rw [if_pos h1] at h; exact absurd rfl h
  · rw [if_neg h1] at h
    by_cases h2 : F_M_in z 0 20 = 0
    · rw [if_pos h2] at h; exact absurd rfl h
    · exact zr_inM h2 (zr_wide (zr_k 20 rfl) (by decide) (by decide)) (by decide)
theorem zr_isPart {S : SM} {i : Int32} (h : ¬ F_M_isPart S i = 0) (hp : zr (sM_parts S) 0 21) : zr i 0 20 := by
  obtain ⟨j, e, h1, h2⟩ := hp
  unfold F_M_isPart at h
  rcases Nat.eq_zero_or_pos j with q | q
  · subst q
    rw [e] at h
    unfold F_M_in at h
    by_cases g1 : i < 0
    · rw [if_pos g1] at h; exact absurd rfl h
    · rw [if_neg g1] at h
      by_cases g2 : nI 0 - 1 < i
      · rw [if_pos g2] at h; exact absurd rfl h
      · exfalso
        apply g2
        have e1 : nI 0 - 1 = -1 := by decide
        rw [e1]
        obtain ⟨u, hu, rfl⟩ := nI_of g1
        rw [Int32.lt_iff_toInt_lt, nI_toInt hu]
        have e2 : (-1 : Int32).toInt = -1 := by decide
        omega
  · have hz : zr (sM_parts S - 1) 0 20 := by
      rw [e]
      exact ⟨j - 1, pk_sub (b := 1) q, by omega, by omega⟩
    exact zr_inM h hz (by decide)
theorem pv_chance (S : SM) (c : Int64) : sM_values (uM_chance S c) = sM_values S := rfl
theorem pv_next (S : SM) (n : Int32) : sM_values (F_M_next S n).2 = sM_values S := by unfold F_M_next; exact pv_chance _ _
theorem pv_title (S : SM) (f : Nat → Int32) : sM_values (uM_title S f) = sM_values S := Eq.trans rfl rfl
theorem pv_vals (S : SM) (f : Nat → Int32) : sM_values (uM_values S f) = f := Eq.trans rfl rfl

set_option maxRecDepth 100000 in
set_option maxHeartbeats 4000000 in
theorem c_M_isPart (G : zG) (l : Launch) (a : Nat → Nat) (S : SM) (x1 : Int32)  : zM G l y_M_isPart b_M_isPart 2 (some .boolean) (zR 1 22) [.ref (a 0), .int x1] (wM G a S) (fun r1 w1 => r1 = some (.int (F_M_isPart S x1)) ∧ w1 = wM G a S) := by
  generalize hPost : (fun (r1 : Option Value) (w1 : va_W) => r1 = some (.int (F_M_isPart S x1)) ∧ w1 = wM G a S) = Post
  have hq : Post (some (.int (F_M_isPart S x1))) (wM G a S) := by rw [← hPost]; exact ⟨rfl, rfl⟩
  clear hPost
  refine zM_of (by decide) (Nat.le_of_ble_eq_true rfl) ?_
  intro p e s m args below meth c C hlk hr hin
  refine z_iload_n C 1 d_M_isPart_0 rfl rfl ?_
  refine z_iconst C 0 2 d_M_isPart_1 rfl (by decide) ?_
  refine z_aload_n C 3 d_M_isPart_2 rfl rfl ?_
  refine z_get C kf_M_65 0 (v := .int (sM_parts S)) 6 d_M_isPart_3 rfl rfl rfl ?_
  refine z_iconst C 1 7 d_M_isPart_6 rfl (by decide) ?_
  refine z_isub C 8 d_M_isPart_7 rfl ?_
  refine z_go0 C (z_S C kc_M_61 (c_M_in G l x1 0 ((sM_parts S) - 1)) (st := []) rfl rfl (Nat.le_of_ble_eq_true rfl) ⟨⟨Nat.le_of_ble_eq_true rfl, Nat.le_of_ble_eq_true rfl⟩, Nat.le_of_ble_eq_true rfl, Nat.le_of_ble_eq_true rfl⟩ d_M_isPart_8) [0, 1, 2, 3] [.int (F_M_in x1 0 ((sM_parts S) - 1))] 11 rfl rfl rfl rfl ?_
  exact z_zret C hlk (bi_nar (bi_in _ _ _)) hr d_M_isPart_11 (by rw [show F_M_isPart S x1 = (F_M_in x1 0 ((sM_parts S) - 1)) from by rw [F_M_isPart]] at hq; exact hq)


theorem zr_n1 {k : Int32} {lo hi : Nat} (h : zr k lo hi) (hh : hi + 1 < 2 ^ 31) : k.toNatClampNeg ≠ (k + 1).toNatClampNeg := by
  obtain ⟨j, rfl, h3, h4⟩ := h
  rw [nI_1, nI_clamp (by omega), nI_clamp (by omega)]
  omega
theorem zdecS {v u : Int32} {a b n : Nat} (h : ¬ v = 0) (hx : u = 0 ∨ b < a) (hm : (if v = 0 then 0 else a + 1) < n + 1) : (if u = 0 then 0 else b + 1) < n := by
  rw [if_neg h] at hm
  rcases hx with q | q
  · rw [if_pos q]; omega
  · split <;> omega
theorem zs_amt (i : Int32) : ∃ k : Nat, k < 32 ∧ i &&& 31 = nI k := pk_andE i 5 (by decide)
theorem zs_b0 (b : BitVec 32) : (b &&& 1#32) = 0#32 ↔ b.getLsbD 0 = false := by
  constructor
  · intro h
    have h1 := congrArg (fun z : BitVec 32 => z.getLsbD 0) h
    have h2 : (b &&& 1#32).getLsbD 0 = b.getLsbD 0 := by
      rw [BitVec.getLsbD_and, show (1#32 : BitVec 32).getLsbD 0 = true by decide, Bool.and_true]
    rw [← h2]
    exact h1.trans (by decide)
  · intro h
    apply BitVec.eq_of_getLsbD_eq
    intro j hj
    rw [BitVec.getLsbD_and, BitVec.getLsbD_zero, BitVec.getLsbD_one]
    rcases Nat.eq_zero_or_pos j with q | q
    · subst q; rw [h, Bool.false_and]
    · rw [show decide (j = 0) = false from decide_eq_false (by omega), Bool.and_false, Bool.and_false]
theorem zs_bit {x i : Int32} {k : Nat} (hk : k < 32) (e : i &&& 31 = nI k) : ((x >>> (i &&& 31)) &&& 1) = 0 ↔ x.toBitVec.getLsbD k = false := by
  have hs : ((nI k).toBitVec.smod 32).toNat = k := (by decide +kernel : ∀ k, k < 32 → ((nI k).toBitVec.smod 32).toNat = k) k hk
  have h1 : ((x >>> nI k) &&& 1).toBitVec = (x.toBitVec.sshiftRight k) &&& 1#32 := by
    rw [Int32.toBitVec_and, Int32.toBitVec_shiftRight]
    congr 1
    show x.toBitVec.sshiftRight' ((nI k).toBitVec.smod 32) = _
    rw [BitVec.sshiftRight', hs]
  have h2 : (x.toBitVec.sshiftRight k).getLsbD 0 = x.toBitVec.getLsbD k := by
    rw [BitVec.getLsbD_sshiftRight, if_pos (by omega), show decide ((32 : Nat) ≤ 0) = false from rfl, Bool.not_false, Bool.true_and, Nat.add_zero]
  rw [e, ← Int32.toBitVec_inj, h1, ← h2]
  exact zs_b0 _
theorem zs_two {i : Int32} {k : Nat} (hk : k < 32) (e : i &&& 31 = nI k) : ((1 : Int32) <<< (i &&& 31)).toBitVec = BitVec.twoPow 32 k := by
  rw [e]
  exact (by decide +kernel : ∀ k, k < 32 → ((1 : Int32) <<< nI k).toBitVec = BitVec.twoPow 32 k) k hk
theorem zs_off {x i : Int32} {k : Nat} (hk : k < 32) (e : i &&& 31 = nI k) (j : Nat) : (x &&& (((1 : Int32) <<< (i &&& 31)) ^^^ (-1))).toBitVec.getLsbD j = (x.toBitVec.getLsbD j && !decide (j = k)) := by
  rw [Int32.toBitVec_and, Int32.toBitVec_xor, zs_two hk e, show (-1 : Int32).toBitVec = BitVec.allOnes 32 by decide, BitVec.getLsbD_and, BitVec.getLsbD_xor, BitVec.getLsbD_twoPow, BitVec.getLsbD_allOnes, decide_eq_true hk, Bool.true_and]
  by_cases hj : j < 32
  · rw [decide_eq_true hj]
    by_cases q : j = k
    · subst q; simp
    · have q' : ¬ k = j := fun z => q z.symm
      simp [q, q']
  · rw [BitVec.getLsbD_of_ge _ _ (by omega), Bool.false_and, Bool.false_and]
theorem zs_less {x i : Int32} (h : ¬ ((x >>> (i &&& 31)) &&& 1) = 0) : (x &&& (((1 : Int32) <<< (i &&& 31)) ^^^ (-1))).toBitVec.toNat < x.toBitVec.toNat := by
  obtain ⟨k, hk, e⟩ := zs_amt i
  have hb : x.toBitVec.getLsbD k = true := by
    rcases hq : x.toBitVec.getLsbD k with _ | _
    · exact absurd ((zs_bit hk e).mpr hq) h
    · rfl
  have h1 : x.toBitVec = (x &&& (((1 : Int32) <<< (i &&& 31)) ^^^ (-1))).toBitVec ||| BitVec.twoPow 32 k := by
    apply BitVec.eq_of_getLsbD_eq
    intro j hj
    rw [BitVec.getLsbD_or, zs_off hk e, BitVec.getLsbD_twoPow, decide_eq_true hk, Bool.true_and]
    by_cases q : j = k
    · subst q; rw [hb]; simp
    · have q' : ¬ k = j := fun z => q z.symm
      rw [decide_eq_false q, decide_eq_false q', Bool.or_false, Bool.not_false, Bool.and_true]
  have h2 : (x &&& (((1 : Int32) <<< (i &&& 31)) ^^^ (-1))).toBitVec &&& BitVec.twoPow 32 k = 0#32 := by
    apply BitVec.eq_of_getLsbD_eq
    intro j hj
    rw [BitVec.getLsbD_and, zs_off hk e, BitVec.getLsbD_twoPow, decide_eq_true hk, Bool.true_and, BitVec.getLsbD_zero]
    by_cases q : j = k
    · subst q; simp
    · have q' : ¬ k = j := fun z => q z.symm
      rw [decide_eq_false q', Bool.and_false]
  have h3 := BitVec.add_eq_or_of_and_eq_zero _ _ h2
  rw [← h1] at h3
  have h4 : (BitVec.twoPow 32 k).toNat = 2 ^ k := by rw [BitVec.toNat_twoPow, Nat.mod_eq_of_lt (Nat.pow_lt_pow_right (by decide) hk)]
  generalize hy : (x &&& (((1 : Int32) <<< (i &&& 31)) ^^^ (-1))).toBitVec = y at h1 h2 h3
  have h5 : x.toBitVec.toNat = (y.toNat + 2 ^ k) % 2 ^ 32 := by rw [← h3, BitVec.toNat_add, h4]
  have h6 : y.toNat ≤ x.toBitVec.toNat := by
    rw [h1, BitVec.toNat_or]
    exact Nat.left_le_or
  have h7 : y.toNat ≠ x.toBitVec.toNat := by
    intro q
    have h8 : y = x.toBitVec := BitVec.eq_of_toNat_eq q
    have h9 : y.getLsbD k = false := by rw [← hy, zs_off hk e]; simp
    rw [h8, hb] at h9
    cases h9
  omega
theorem zlt_bit {x i v : Int32} {y : Nat} (h : ¬ ((x >>> (i &&& 31)) &&& 1) = 0) (hy : (v = 0 ∧ x.toBitVec.toNat ≤ y) ∨ x.toBitVec.toNat < y) : (x &&& (((1 : Int32) <<< (i &&& 31)) ^^^ (-1))).toBitVec.toNat < y := by
  have := zs_less h
  rcases hy with q | q <;> omega
