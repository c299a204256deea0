def F_K_count (S : SK)  : Int32 :=
  (sK_parts S)
set_option maxRecDepth 100000 in
set_option maxHeartbeats 4000000 in
theorem c_K_count (G : zG) (l : Launch) (a : Nat → Nat) (S : SK)   : zM G l y_K_count b_K_count 1 (some .int) (zR 0 0) [.ref (a 0)] (wK G a S) (fun r1 w1 => r1 = some (.int (F_K_count S)) ∧ w1 = wK G a S) := by
  generalize hPost : (fun (r1 : Option Value) (w1 : va_W) => r1 = some (.int (F_K_count S)) ∧ w1 = wK G a S) = Post
  have hq : Post (some (.int (F_K_count S))) (wK G a S) := by rw [← hPost]; exact ⟨rfl, rfl⟩
  clear hPost
  refine zM_of (by decide) (Nat.le_of_ble_eq_true rfl) ?_
  intro p e s m args below meth c C hlk hr hin
  refine z_aload_n C 1 d_K_count_0 rfl rfl ?_
  refine z_get C kf_K_29 0 (v := .int (sK_parts S)) 4 d_K_count_1 rfl rfl rfl ?_
  exact z_iret C hlk hr d_K_count_4 (by rw [show F_K_count S = (sK_parts S) from by rw [F_K_count]] at hq; exact hq)

def F_K_allParts (S : SK)  : Int32 :=
  ((1 <<< ((sK_parts S) &&& 31)) - 1)
set_option maxRecDepth 100000 in
set_option maxHeartbeats 4000000 in
theorem c_K_allParts (G : zG) (l : Launch) (a : Nat → Nat) (S : SK)   : zM G l y_K_allParts b_K_allParts 1 (some .int) (zR 0 0) [.ref (a 0)] (wK G a S) (fun r1 w1 => r1 = some (.int (F_K_allParts S)) ∧ w1 = wK G a S) := by
  generalize hPost : (fun (r1 : Option Value) (w1 : va_W) => r1 = some (.int (F_K_allParts S)) ∧ w1 = wK G a S) = Post
  have hq : Post (some (.int (F_K_allParts S))) (wK G a S) := by rw [← hPost]; exact ⟨rfl, rfl⟩
  clear hPost
  refine zM_of (by decide) (Nat.le_of_ble_eq_true rfl) ?_
  intro p e s m args below meth c C hlk hr hin
  refine z_iconst C 1 1 d_K_allParts_0 rfl (by decide) ?_
  refine z_aload_n C 2 d_K_allParts_1 rfl rfl ?_
  refine z_get C kf_K_29 0 (v := .int (sK_parts S)) 5 d_K_allParts_2 rfl rfl rfl ?_
  refine z_ishl C 6 d_K_allParts_5 rfl ?_
  refine z_iconst C 1 7 d_K_allParts_6 rfl (by decide) ?_
  refine z_isub C 8 d_K_allParts_7 rfl ?_
  exact z_iret C hlk hr d_K_allParts_8 (by rw [show F_K_allParts S = ((1 <<< ((sK_parts S) &&& 31)) - 1) from by rw [F_K_allParts]] at hq; exact hq)

def F_K_has (S : SK) (x1 : Int32) : Int32 :=
  if x1 < 0 then
    0
  else
    if (sK_parts S) ≤ x1 then
      0
    else
      if 21 ≤ x1 then
        0
      else
        1
set_option maxRecDepth 100000 in
set_option maxHeartbeats 4000000 in
theorem c_K_has (G : zG) (l : Launch) (a : Nat → Nat) (S : SK) (x1 : Int32)  : zM G l y_K_has b_K_has 2 (some .boolean) (zR 0 0) [.ref (a 0), .int x1] (wK G a S) (fun r1 w1 => r1 = some (.int (F_K_has S x1)) ∧ w1 = wK G a S) := by
  generalize hPost : (fun (r1 : Option Value) (w1 : va_W) => r1 = some (.int (F_K_has S x1)) ∧ w1 = wK G a S) = Post
  have hq : Post (some (.int (F_K_has S x1))) (wK G a S) := by rw [← hPost]; exact ⟨rfl, rfl⟩
  clear hPost
  refine zM_of (by decide) (Nat.le_of_ble_eq_true rfl) ?_
  intro p e s m args below meth c C hlk hr hin
  refine z_iload_n C 1 d_K_has_0 rfl rfl ?_
  refine z_if_lt C 22 4 d_K_has_1 (by decide) rfl (fun c_1 => ?_) (fun c_1 => ?_)
  · refine z_iconst C 0 23 d_K_has_22 rfl (by decide) ?_
    exact z_zret C hlk rfl hr d_K_has_23 (by rw [show F_K_has S x1 = 0 from by rw [F_K_has, if_pos c_1]] at hq; exact hq)
  · refine z_iload_n C 5 d_K_has_4 rfl rfl ?_
    refine z_aload_n C 6 d_K_has_5 rfl rfl ?_
    refine z_get C kf_K_29 0 (v := .int (sK_parts S)) 9 d_K_has_6 rfl rfl rfl ?_
    refine z_icmp_ge C 22 12 d_K_has_9 (by decide) rfl (fun c_9 => ?_) (fun c_9 => ?_)
    · refine z_iconst C 0 23 d_K_has_22 rfl (by decide) ?_
      exact z_zret C hlk rfl hr d_K_has_23 (by rw [show F_K_has S x1 = 0 from by rw [F_K_has, if_neg c_1, if_pos c_9]] at hq; exact hq)
    · refine z_iload_n C 13 d_K_has_12 rfl rfl ?_
      refine z_bipush C 21 15 d_K_has_13 rfl (by decide) ?_
      refine z_icmp_ge C 22 18 d_K_has_15 (by decide) rfl (fun c_15 => ?_) (fun c_15 => ?_)
      · refine z_iconst C 0 23 d_K_has_22 rfl (by decide) ?_
        exact z_zret C hlk rfl hr d_K_has_23 (by rw [show F_K_has S x1 = 0 from by rw [F_K_has, if_neg c_1, if_neg c_9, if_pos c_15]] at hq; exact hq)
      · refine z_iconst C 1 19 d_K_has_18 rfl (by decide) ?_
        refine z_goto C 23 d_K_has_19 (by decide) ?_
        exact z_zret C hlk rfl hr d_K_has_23 (by rw [show F_K_has S x1 = 1 from by rw [F_K_has, if_neg c_1, if_neg c_9, if_neg c_15]] at hq; exact hq)


theorem kx_nz {P Q : Prop} {x : Int32} (h : ¬ x = 0) (e : x = 0) : P := absurd e h
theorem kx_has {S : SK} {i : Int32} (h : ¬ F_K_has S i = 0) : ∃ j : Nat, j < 21 ∧ i = nI j := by
  unfold F_K_has at h
  by_cases h1 : i < 0
  · rw [if_pos h1] at h; exact absurd rfl h
  · rw [if_neg h1] at h
    by_cases h2 : sK_parts S ≤ i
    · rw [if_pos h2] at h; exact absurd rfl h
    · rw [if_neg h2] at h
      by_cases h3 : 21 ≤ i
      · rw [if_pos h3] at h; exact absurd rfl h
      · obtain ⟨j, hj, e⟩ := nI_of h1
        refine ⟨j, ?_, e⟩
        subst e
        rcases Nat.lt_or_ge j 21 with q | q
        · exact q
        · exact absurd (nI_le q hj) h3
theorem kx_has1 {S : SK} {i : Int32} (h : ¬ F_K_has S i = 0) : vp_in i 21 := by
  obtain ⟨j, hj, rfl⟩ := kx_has h
  exact vp_in_nI hj (by decide)
theorem kx_n3 (j u : Nat) : nI j * 3 + nI u = nI (j * 3 + u) := by
  rw [show (3 : Int32) = nI 3 from rfl, pk_mul, nI_add]
theorem kx_num {S : SK} {i w : Int32} (h : ¬ F_K_has S i = 0) (h1 : ¬ w < 0) (h2 : w < 3) : vp_in (i * 3 + w) 63 := by
  obtain ⟨j, hj, rfl⟩ := kx_has h
  obtain ⟨u, hu, rfl⟩ := nI_of h1
  rw [kx_n3]
  refine vp_in_nI ?_ (by decide)
  have : u < 3 := (nI_ltI hu (by decide)).mp h2
  omega
theorem kx_p0 {S : SK} {i : Int32} (h : ¬ F_K_has S i = 0) : vp_in (i * 3) 63 := by
  obtain ⟨j, hj, rfl⟩ := kx_has h
  rw [show (3 : Int32) = nI 3 from rfl, pk_mul]
  exact vp_in_nI (by omega) (by decide)
theorem kx_p1 {S : SK} {i : Int32} (h : ¬ F_K_has S i = 0) : vp_in (i * 3 + 1) 63 := kx_num h (by decide) (by decide)
theorem kx_p2 {S : SK} {i : Int32} (h : ¬ F_K_has S i = 0) : vp_in (i * 3 + 2) 63 := kx_num h (by decide) (by decide)
theorem kx_ix {i b : Int32} {n : Nat} (hb : b = nI n) (hn : n < 2 ^ 31) (h : ¬ i < 0) (h2 : i < b) : vp_in i n := by
  obtain ⟨j, hj, rfl⟩ := nI_of h
  rw [hb] at h2
  exact vp_in_nI ((nI_ltI hj hn).mp h2) hn
theorem kx_ge1 {n : Int32} (h : 1 ≤ n) : ¬ n = 0 := by
  rintro rfl
  exact absurd h (by decide)

def F_K_number (S : SK) (x1 : Int32) (x2 : Int32) : Int32 :=
  if (F_K_has S x1) = 0 then
    (-1)
  else
    if x2 < 0 then
      (-1)
    else
      if x2 < 3 then
        ((sK_numbers S) (Int32.toNatClampNeg ((x1 * 3) + x2)))
      else
        (-1)
set_option maxRecDepth 100000 in
set_option maxHeartbeats 4000000 in
theorem c_K_number (G : zG) (l : Launch) (a : Nat → Nat) (S : SK) (x1 : Int32) (x2 : Int32)  : zM G l y_K_number b_K_number 3 (some .int) (zR 1 21) [.ref (a 0), .int x1, .int x2] (wK G a S) (fun r1 w1 => r1 = some (.int (F_K_number S x1 x2)) ∧ w1 = wK G a S) := by
  generalize hPost : (fun (r1 : Option Value) (w1 : va_W) => r1 = some (.int (F_K_number S x1 x2)) ∧ w1 = wK G a S) = Post
  have hq : Post (some (.int (F_K_number S x1 x2))) (wK G a S) := by rw [← hPost]; exact ⟨rfl, rfl⟩
  clear hPost
  refine zM_of (by decide) (Nat.le_of_ble_eq_true rfl) ?_
  intro p e s m args below meth c C hlk hr hin
  refine z_aload_n C 1 d_K_number_0 rfl rfl ?_
  refine z_iload_n C 2 d_K_number_1 rfl rfl ?_
  refine z_goA C (z_V C kc_K_35 (c_K_has G l a S x1) (st := []) 0 0 rfl rfl rfl rfl (Nat.le_of_ble_eq_true rfl) ⟨⟨Nat.le_of_ble_eq_true rfl, Nat.le_of_ble_eq_true rfl⟩, Nat.le_of_ble_eq_true rfl, Nat.le_of_ble_eq_true rfl⟩ d_K_number_2) [.int (F_K_has S x1)] 5 rfl rfl ?_
  refine z_if_eq C 17 8 d_K_number_5 (by decide) rfl (fun c_5 => ?_) (fun c_5 => ?_)
  · refine z_iconst C (-1) 18 d_K_number_17 rfl (by decide) ?_
    exact z_iret C hlk hr d_K_number_18 (by rw [show F_K_number S x1 x2 = (-1) from by rw [F_K_number, if_pos c_5]] at hq; exact hq)
  · refine z_iload_n C 9 d_K_number_8 rfl rfl ?_
    refine z_if_lt C 17 12 d_K_number_9 (by decide) rfl (fun c_9 => ?_) (fun c_9 => ?_)
    · refine z_iconst C (-1) 18 d_K_number_17 rfl (by decide) ?_
      exact z_iret C hlk hr d_K_number_18 (by rw [show F_K_number S x1 x2 = (-1) from by rw [F_K_number, if_neg c_5, if_pos c_9]] at hq; exact hq)
    · refine z_iload_n C 13 d_K_number_12 rfl rfl ?_
      refine z_iconst C 3 14 d_K_number_13 rfl (by decide) ?_
      refine z_icmp_lt C 19 17 d_K_number_14 (by decide) rfl (fun c_14 => ?_) (fun c_14 => ?_)
      · refine z_aload_n C 20 d_K_number_19 rfl rfl ?_
        refine z_get C kf_K_9 0 (v := .ref (a 1)) 23 d_K_number_20 rfl rfl rfl ?_
        refine z_iload_n C 24 d_K_number_23 rfl rfl ?_
        refine z_iconst C 3 25 d_K_number_24 rfl (by decide) ?_
        refine z_imul C 26 d_K_number_25 rfl ?_
        refine z_iload_n C 27 d_K_number_26 rfl rfl ?_
        refine z_iadd C 28 d_K_number_27 rfl ?_
        refine z_iald C 1 0 (f := (sK_numbers S)) 29 d_K_number_28 rfl rfl rfl (kx_num c_5 c_9 c_14) ?_
        exact z_iret C hlk hr d_K_number_29 (by rw [show F_K_number S x1 x2 = ((sK_numbers S) (Int32.toNatClampNeg ((x1 * 3) + x2))) from by rw [F_K_number, if_neg c_5, if_neg c_9, if_pos c_14]] at hq; exact hq)
      · refine z_iconst C (-1) 18 d_K_number_17 rfl (by decide) ?_
        exact z_iret C hlk hr d_K_number_18 (by rw [show F_K_number S x1 x2 = (-1) from by rw [F_K_number, if_neg c_5, if_neg c_9, if_neg c_14]] at hq; exact hq)

def F_K_sign (S : SK) (x1 : Int32) : Int32 :=
  if x1 < 0 then
    (-1)
  else
    if (sK_signsUsed S) ≤ x1 then
      (-1)
    else
      if x1 < 147 then
        ((sK_signs S) (Int32.toNatClampNeg x1))
      else
        (-1)
set_option maxRecDepth 100000 in
set_option maxHeartbeats 4000000 in
theorem c_K_sign (G : zG) (l : Launch) (a : Nat → Nat) (S : SK) (x1 : Int32)  : zM G l y_K_sign b_K_sign 2 (some .int) (zR 0 0) [.ref (a 0), .int x1] (wK G a S) (fun r1 w1 => r1 = some (.int (F_K_sign S x1)) ∧ w1 = wK G a S) := by
  generalize hPost : (fun (r1 : Option Value) (w1 : va_W) => r1 = some (.int (F_K_sign S x1)) ∧ w1 = wK G a S) = Post
  have hq : Post (some (.int (F_K_sign S x1))) (wK G a S) := by rw [← hPost]; exact ⟨rfl, rfl⟩
  clear hPost
  refine zM_of (by decide) (Nat.le_of_ble_eq_true rfl) ?_
  intro p e s m args below meth c C hlk hr hin
  refine z_iload_n C 1 d_K_sign_0 rfl rfl ?_
  refine z_if_lt C 21 4 d_K_sign_1 (by decide) rfl (fun c_1 => ?_) (fun c_1 => ?_)
  · refine z_iconst C (-1) 22 d_K_sign_21 rfl (by decide) ?_
    exact z_iret C hlk hr d_K_sign_22 (by rw [show F_K_sign S x1 = (-1) from by rw [F_K_sign, if_pos c_1]] at hq; exact hq)
  · refine z_iload_n C 5 d_K_sign_4 rfl rfl ?_
    refine z_aload_n C 6 d_K_sign_5 rfl rfl ?_
    refine z_get C kf_K_32 0 (v := .int (sK_signsUsed S)) 9 d_K_sign_6 rfl rfl rfl ?_
    refine z_icmp_ge C 21 12 d_K_sign_9 (by decide) rfl (fun c_9 => ?_) (fun c_9 => ?_)
    · refine z_iconst C (-1) 22 d_K_sign_21 rfl (by decide) ?_
      exact z_iret C hlk hr d_K_sign_22 (by rw [show F_K_sign S x1 = (-1) from by rw [F_K_sign, if_neg c_1, if_pos c_9]] at hq; exact hq)
    · refine z_iload_n C 13 d_K_sign_12 rfl rfl ?_
      refine z_aload_n C 14 d_K_sign_13 rfl rfl ?_
      refine z_get C kf_K_15 0 (v := .ref (a 2)) 17 d_K_sign_14 rfl rfl rfl ?_
      refine z_alen C 2 0 147 18 d_K_sign_17 rfl rfl rfl rfl ?_
      refine z_icmp_lt C 23 21 d_K_sign_18 (by decide) rfl (fun c_18 => ?_) (fun c_18 => ?_)
      · refine z_aload_n C 24 d_K_sign_23 rfl rfl ?_
        refine z_get C kf_K_15 0 (v := .ref (a 2)) 27 d_K_sign_24 rfl rfl rfl ?_
        refine z_iload_n C 28 d_K_sign_27 rfl rfl ?_
        refine z_iald C 2 0 (f := (sK_signs S)) 29 d_K_sign_28 rfl rfl rfl (kx_ix rfl (by decide) c_1 c_18) ?_
        exact z_iret C hlk hr d_K_sign_29 (by rw [show F_K_sign S x1 = ((sK_signs S) (Int32.toNatClampNeg x1)) from by rw [F_K_sign, if_neg c_1, if_neg c_9, if_pos c_18]] at hq; exact hq)
      · refine z_iconst C (-1) 22 d_K_sign_21 rfl (by decide) ?_
        exact z_iret C hlk hr d_K_sign_22 (by rw [show F_K_sign S x1 = (-1) from by rw [F_K_sign, if_neg c_1, if_neg c_9, if_neg c_18]] at hq; exact hq)

def F_K_next (S : SK) (x1 : Int32) : Int32 × SK :=
  if 1 ≤ x1 then
    (((Int64.toInt32 ((Int64.toUInt64 (((sK_chance S) * 6364136223846793005) + 1442695040888963407) >>> ((Int32.toInt64 33).toUInt64 &&& Int64.toUInt64 63)).toInt64)) - (Int64.toInt32 ((Int64.toUInt64 (((sK_chance S) * 6364136223846793005) + 1442695040888963407) >>> ((Int32.toInt64 33).toUInt64 &&& Int64.toUInt64 63)).toInt64)) / x1 * x1), (uK_chance S (((sK_chance S) * 6364136223846793005) + 1442695040888963407)))
  else
    (0, (uK_chance S (((sK_chance S) * 6364136223846793005) + 1442695040888963407)))
set_option maxRecDepth 100000 in
set_option maxHeartbeats 4000000 in
theorem c_K_next (G : zG) (l : Launch) (a : Nat → Nat) (S : SK) (x1 : Int32)  : zM G l y_K_next b_K_next 3 (some .int) (zR 0 0) [.ref (a 0), .int x1] (wK G a S) (fun r1 w1 => r1 = some (.int (F_K_next S x1).1) ∧ w1 = wK G a (F_K_next S x1).2) := by
  generalize hPost : (fun (r1 : Option Value) (w1 : va_W) => r1 = some (.int (F_K_next S x1).1) ∧ w1 = wK G a (F_K_next S x1).2) = Post
  have hq : Post (some (.int (F_K_next S x1).1)) (wK G a (F_K_next S x1).2) := by rw [← hPost]; exact ⟨rfl, rfl⟩
  clear hPost
  refine zM_of (by decide) (Nat.le_of_ble_eq_true rfl) ?_
  intro p e s m args below meth c C hlk hr hin
  refine z_aload_n C 1 d_K_next_0 rfl rfl ?_
  refine z_aload_n C 2 d_K_next_1 rfl rfl ?_
  refine z_get C kf_K_21 0 (v := .long (sK_chance S)) 5 d_K_next_2 rfl rfl rfl ?_
  refine z_ldc2 C 6364136223846793005 8 d_K_next_5 rfl kk_K_102 ?_
  refine z_lmul C 9 d_K_next_8 rfl ?_
  refine z_ldc2 C 1442695040888963407 12 d_K_next_9 rfl kk_K_104 ?_
  refine z_ladd C 13 d_K_next_12 rfl ?_
  refine z_put C kf_K_21 kp_K 0 (wK G a (uK_chance S (((sK_chance S) * 6364136223846793005) + 1442695040888963407))) 16 d_K_next_13 rfl rfl rfl (znr_l _) (zft_l _) (Nat.le_of_ble_eq_true rfl) (wK_put_chance G a S (((sK_chance S) * 6364136223846793005) + 1442695040888963407)) ?_
  refine z_aload_n C 17 d_K_next_16 rfl rfl ?_
  refine z_get C kf_K_21 0 (v := .long (((sK_chance S) * 6364136223846793005) + 1442695040888963407)) 20 d_K_next_17 rfl rfl rfl ?_
  refine z_bipush C 33 22 d_K_next_20 rfl (by decide) ?_
  refine z_lushr C 23 d_K_next_22 rfl ?_
  refine z_l2i C 24 d_K_next_23 rfl ?_
  refine z_istore_n C [(2, .int (Int64.toInt32 ((Int64.toUInt64 (((sK_chance S) * 6364136223846793005) + 1442695040888963407) >>> ((Int32.toInt64 33).toUInt64 &&& Int64.toUInt64 63)).toInt64))), (0, .ref (a 0)), (1, .int x1)] 25 d_K_next_24 rfl (by decide) rfl ?_
  refine z_iload_n C 26 d_K_next_25 rfl rfl ?_
  refine z_iconst C 1 27 d_K_next_26 rfl (by decide) ?_
  refine z_icmp_ge C 34 30 d_K_next_27 (by decide) rfl (fun c_27 => ?_) (fun c_27 => ?_)
  · refine z_iload_n C 35 d_K_next_34 rfl rfl ?_
    refine z_iload_n C 36 d_K_next_35 rfl rfl ?_
    refine z_irem C 37 d_K_next_36 rfl (kx_ge1 c_27) ?_
    exact z_iret C hlk hr d_K_next_37 (by rw [show F_K_next S x1 = (((Int64.toInt32 ((Int64.toUInt64 (((sK_chance S) * 6364136223846793005) + 1442695040888963407) >>> ((Int32.toInt64 33).toUInt64 &&& Int64.toUInt64 63)).toInt64)) - (Int64.toInt32 ((Int64.toUInt64 (((sK_chance S) * 6364136223846793005) + 1442695040888963407) >>> ((Int32.toInt64 33).toUInt64 &&& Int64.toUInt64 63)).toInt64)) / x1 * x1), (uK_chance S (((sK_chance S) * 6364136223846793005) + 1442695040888963407))) from by rw [F_K_next, if_pos c_27]] at hq; exact hq)
  · refine z_iconst C 0 31 d_K_next_30 rfl (by decide) ?_
    refine z_goto C 37 d_K_next_31 (by decide) ?_
    exact z_iret C hlk hr d_K_next_37 (by rw [show F_K_next S x1 = (0, (uK_chance S (((sK_chance S) * 6364136223846793005) + 1442695040888963407))) from by rw [F_K_next, if_neg c_27]] at hq; exact hq)

def F_K_put (S : SK) (x1 : Int32) (x2 : Int32) (x3 : Int32) (x4 : Int32) : SK :=
  if (F_K_has S x1) = 0 then
    S
  else
    (uK_numbers (uK_numbers (uK_numbers S (upd (sK_numbers S) (Int32.toNatClampNeg (x1 * 3)) x2)) (upd (upd (sK_numbers S) (Int32.toNatClampNeg (x1 * 3)) x2) (Int32.toNatClampNeg ((x1 * 3) + 1)) x3)) (upd (upd (upd (sK_numbers S) (Int32.toNatClampNeg (x1 * 3)) x2) (Int32.toNatClampNeg ((x1 * 3) + 1)) x3) (Int32.toNatClampNeg ((x1 * 3) + 2)) x4))
set_option maxRecDepth 100000 in
set_option maxHeartbeats 4000000 in
theorem c_K_put (G : zG) (l : Launch) (a : Nat → Nat) (S : SK) (x1 : Int32) (x2 : Int32) (x3 : Int32) (x4 : Int32)  : zM G l y_K_put b_K_put 5 (none) (zR 1 21) [.ref (a 0), .int x1, .int x2, .int x3, .int x4] (wK G a S) (fun r1 w1 => r1 = none ∧ w1 = wK G a (F_K_put S x1 x2 x3 x4)) := by
  generalize hPost : (fun (r1 : Option Value) (w1 : va_W) => r1 = none ∧ w1 = wK G a (F_K_put S x1 x2 x3 x4)) = Post
  have hq : Post (none) (wK G a (F_K_put S x1 x2 x3 x4)) := by rw [← hPost]; exact ⟨rfl, rfl⟩
  clear hPost
  refine zM_of (by decide) (Nat.le_of_ble_eq_true rfl) ?_
  intro p e s m args below meth c C hlk hr hin
  refine z_aload_n C 1 d_K_put_0 rfl rfl ?_
  refine z_iload_n C 2 d_K_put_1 rfl rfl ?_
  refine z_goA C (z_V C kc_K_35 (c_K_has G l a S x1) (st := []) 0 0 rfl rfl rfl rfl (Nat.le_of_ble_eq_true rfl) ⟨⟨Nat.le_of_ble_eq_true rfl, Nat.le_of_ble_eq_true rfl⟩, Nat.le_of_ble_eq_true rfl, Nat.le_of_ble_eq_true rfl⟩ d_K_put_2) [.int (F_K_has S x1)] 5 rfl rfl ?_
  refine z_if_eq C 40 8 d_K_put_5 (by decide) rfl (fun c_5 => ?_) (fun c_5 => ?_)
  · exact z_vret C hlk hr d_K_put_40 (by rw [show F_K_put S x1 x2 x3 x4 = S from by rw [F_K_put, if_pos c_5]] at hq; exact hq)
  · refine z_aload_n C 9 d_K_put_8 rfl rfl ?_
    refine z_get C kf_K_9 0 (v := .ref (a 1)) 12 d_K_put_9 rfl rfl rfl ?_
    refine z_iload_n C 13 d_K_put_12 rfl rfl ?_
    refine z_iconst C 3 14 d_K_put_13 rfl (by decide) ?_
    refine z_imul C 15 d_K_put_14 rfl ?_
    refine z_iload_n C 16 d_K_put_15 rfl rfl ?_
    refine z_iast C 1 0 (f := (sK_numbers S)) (wK G a (uK_numbers S (upd (sK_numbers S) (Int32.toNatClampNeg (x1 * 3)) x2))) 17 d_K_put_16 rfl rfl rfl (kx_p0 c_5) (wK_set_numbers G a S (upd (sK_numbers S) (Int32.toNatClampNeg (x1 * 3)) x2)) ?_
    refine z_aload_n C 18 d_K_put_17 rfl rfl ?_
    refine z_get C kf_K_9 0 (v := .ref (a 1)) 21 d_K_put_18 rfl rfl rfl ?_
    refine z_iload_n C 22 d_K_put_21 rfl rfl ?_
    refine z_iconst C 3 23 d_K_put_22 rfl (by decide) ?_
    refine z_imul C 24 d_K_put_23 rfl ?_
    refine z_iconst C 1 25 d_K_put_24 rfl (by decide) ?_
    refine z_iadd C 26 d_K_put_25 rfl ?_
    refine z_iload_n C 27 d_K_put_26 rfl rfl ?_
    refine z_iast C 1 0 (f := (upd (sK_numbers S) (Int32.toNatClampNeg (x1 * 3)) x2)) (wK G a (uK_numbers (uK_numbers S (upd (sK_numbers S) (Int32.toNatClampNeg (x1 * 3)) x2)) (upd (upd (sK_numbers S) (Int32.toNatClampNeg (x1 * 3)) x2) (Int32.toNatClampNeg ((x1 * 3) + 1)) x3))) 28 d_K_put_27 rfl rfl rfl (kx_p1 c_5) (wK_set_numbers G a (uK_numbers S (upd (sK_numbers S) (Int32.toNatClampNeg (x1 * 3)) x2)) (upd (upd (sK_numbers S) (Int32.toNatClampNeg (x1 * 3)) x2) (Int32.toNatClampNeg ((x1 * 3) + 1)) x3)) ?_
    refine z_aload_n C 29 d_K_put_28 rfl rfl ?_
    refine z_get C kf_K_9 0 (v := .ref (a 1)) 32 d_K_put_29 rfl rfl rfl ?_
    refine z_iload_n C 33 d_K_put_32 rfl rfl ?_
    refine z_iconst C 3 34 d_K_put_33 rfl (by decide) ?_
    refine z_imul C 35 d_K_put_34 rfl ?_
    refine z_iconst C 2 36 d_K_put_35 rfl (by decide) ?_
    refine z_iadd C 37 d_K_put_36 rfl ?_
    refine z_iload C 39 d_K_put_37 rfl rfl ?_
    refine z_iast C 1 0 (f := (upd (upd (sK_numbers S) (Int32.toNatClampNeg (x1 * 3)) x2) (Int32.toNatClampNeg ((x1 * 3) + 1)) x3)) (wK G a (uK_numbers (uK_numbers (uK_numbers S (upd (sK_numbers S) (Int32.toNatClampNeg (x1 * 3)) x2)) (upd (upd (sK_numbers S) (Int32.toNatClampNeg (x1 * 3)) x2) (Int32.toNatClampNeg ((x1 * 3) + 1)) x3)) (upd (upd (upd (sK_numbers S) (Int32.toNatClampNeg (x1 * 3)) x2) (Int32.toNatClampNeg ((x1 * 3) + 1)) x3) (Int32.toNatClampNeg ((x1 * 3) + 2)) x4))) 40 d_K_put_39 rfl rfl rfl (kx_p2 c_5) (wK_set_numbers G a (uK_numbers (uK_numbers S (upd (sK_numbers S) (Int32.toNatClampNeg (x1 * 3)) x2)) (upd (upd (sK_numbers S) (Int32.toNatClampNeg (x1 * 3)) x2) (Int32.toNatClampNeg ((x1 * 3) + 1)) x3)) (upd (upd (upd (sK_numbers S) (Int32.toNatClampNeg (x1 * 3)) x2) (Int32.toNatClampNeg ((x1 * 3) + 1)) x3) (Int32.toNatClampNeg ((x1 * 3) + 2)) x4)) ?_
    exact z_vret C hlk hr d_K_put_40 (by rw [show F_K_put S x1 x2 x3 x4 = (uK_numbers (uK_numbers (uK_numbers S (upd (sK_numbers S) (Int32.toNatClampNeg (x1 * 3)) x2)) (upd (upd (sK_numbers S) (Int32.toNatClampNeg (x1 * 3)) x2) (Int32.toNatClampNeg ((x1 * 3) + 1)) x3)) (upd (upd (upd (sK_numbers S) (Int32.toNatClampNeg (x1 * 3)) x2) (Int32.toNatClampNeg ((x1 * 3) + 1)) x3) (Int32.toNatClampNeg ((x1 * 3) + 2)) x4)) from by rw [F_K_put, if_neg c_5]] at hq; exact hq)

def F_K_addSign (S : SK) (x1 : Int32) : SK :=
  if (sK_signsUsed S) < 0 then
    S
  else
    if 147 ≤ (sK_signsUsed S) then
      S
    else
      (uK_signsUsed (uK_signs S (upd (sK_signs S) (Int32.toNatClampNeg (sK_signsUsed S)) x1)) ((sK_signsUsed S) + 1))
set_option maxRecDepth 100000 in
set_option maxHeartbeats 4000000 in
theorem c_K_addSign (G : zG) (l : Launch) (a : Nat → Nat) (S : SK) (x1 : Int32)  : zM G l y_K_addSign b_K_addSign 2 (none) (zR 0 0) [.ref (a 0), .int x1] (wK G a S) (fun r1 w1 => r1 = none ∧ w1 = wK G a (F_K_addSign S x1)) := by
  generalize hPost : (fun (r1 : Option Value) (w1 : va_W) => r1 = none ∧ w1 = wK G a (F_K_addSign S x1)) = Post
  have hq : Post (none) (wK G a (F_K_addSign S x1)) := by rw [← hPost]; exact ⟨rfl, rfl⟩
  clear hPost
  refine zM_of (by decide) (Nat.le_of_ble_eq_true rfl) ?_
  intro p e s m args below meth c C hlk hr hin
  refine z_aload_n C 1 d_K_addSign_0 rfl rfl ?_
  refine z_get C kf_K_32 0 (v := .int (sK_signsUsed S)) 4 d_K_addSign_1 rfl rfl rfl ?_
  refine z_if_lt C 39 7 d_K_addSign_4 (by decide) rfl (fun c_4 => ?_) (fun c_4 => ?_)
  · exact z_vret C hlk hr d_K_addSign_39 (by rw [show F_K_addSign S x1 = S from by rw [F_K_addSign, if_pos c_4]] at hq; exact hq)
  · refine z_aload_n C 8 d_K_addSign_7 rfl rfl ?_
    refine z_get C kf_K_32 0 (v := .int (sK_signsUsed S)) 11 d_K_addSign_8 rfl rfl rfl ?_
    refine z_aload_n C 12 d_K_addSign_11 rfl rfl ?_
    refine z_get C kf_K_15 0 (v := .ref (a 2)) 15 d_K_addSign_12 rfl rfl rfl ?_
    refine z_alen C 2 0 147 16 d_K_addSign_15 rfl rfl rfl rfl ?_
    refine z_icmp_ge C 39 19 d_K_addSign_16 (by decide) rfl (fun c_16 => ?_) (fun c_16 => ?_)
    · exact z_vret C hlk hr d_K_addSign_39 (by rw [show F_K_addSign S x1 = S from by rw [F_K_addSign, if_neg c_4, if_pos c_16]] at hq; exact hq)
    · refine z_aload_n C 20 d_K_addSign_19 rfl rfl ?_
      refine z_get C kf_K_15 0 (v := .ref (a 2)) 23 d_K_addSign_20 rfl rfl rfl ?_
      refine z_aload_n C 24 d_K_addSign_23 rfl rfl ?_
      refine z_get C kf_K_32 0 (v := .int (sK_signsUsed S)) 27 d_K_addSign_24 rfl rfl rfl ?_
      refine z_iload_n C 28 d_K_addSign_27 rfl rfl ?_
      refine z_iast C 2 0 (f := (sK_signs S)) (wK G a (uK_signs S (upd (sK_signs S) (Int32.toNatClampNeg (sK_signsUsed S)) x1))) 29 d_K_addSign_28 rfl rfl rfl (kx_ix rfl (by decide) c_4 (Int32.not_le.mp c_16)) (wK_set_signs G a S (upd (sK_signs S) (Int32.toNatClampNeg (sK_signsUsed S)) x1)) ?_
      refine z_aload_n C 30 d_K_addSign_29 rfl rfl ?_
      refine z_dup C 31 d_K_addSign_30 rfl rfl ?_
      refine z_get C kf_K_32 0 (v := .int (sK_signsUsed S)) 34 d_K_addSign_31 rfl rfl rfl ?_
      refine z_iconst C 1 35 d_K_addSign_34 rfl (by decide) ?_
      refine z_iadd C 36 d_K_addSign_35 rfl ?_
      refine z_put C kf_K_32 kp_K 0 (wK G a (uK_signsUsed (uK_signs S (upd (sK_signs S) (Int32.toNatClampNeg (sK_signsUsed S)) x1)) ((sK_signsUsed S) + 1))) 39 d_K_addSign_36 rfl rfl rfl (znr_i _) (zft_i _) (Nat.le_of_ble_eq_true rfl) (wK_put_signsUsed G a (uK_signs S (upd (sK_signs S) (Int32.toNatClampNeg (sK_signsUsed S)) x1)) ((sK_signsUsed S) + 1)) ?_
      exact z_vret C hlk hr d_K_addSign_39 (by rw [show F_K_addSign S x1 = (uK_signsUsed (uK_signs S (upd (sK_signs S) (Int32.toNatClampNeg (sK_signsUsed S)) x1)) ((sK_signsUsed S) + 1)) from by rw [F_K_addSign, if_neg c_4, if_neg c_16]] at hq; exact hq)

def F_K_startTitle (S : SK) (x1 : Int32) : SK :=
  if (F_K_has S x1) = 0 then
    S
  else
    (uK_titleStarts S (upd (sK_titleStarts S) (Int32.toNatClampNeg x1) (sK_signsUsed S)))
set_option maxRecDepth 100000 in
set_option maxHeartbeats 4000000 in
theorem c_K_startTitle (G : zG) (l : Launch) (a : Nat → Nat) (S : SK) (x1 : Int32)  : zM G l y_K_startTitle b_K_startTitle 2 (none) (zR 1 21) [.ref (a 0), .int x1] (wK G a S) (fun r1 w1 => r1 = none ∧ w1 = wK G a (F_K_startTitle S x1)) := by
  generalize hPost : (fun (r1 : Option Value) (w1 : va_W) => r1 = none ∧ w1 = wK G a (F_K_startTitle S x1)) = Post
  have hq : Post (none) (wK G a (F_K_startTitle S x1)) := by rw [← hPost]; exact ⟨rfl, rfl⟩
  clear hPost
  refine zM_of (by decide) (Nat.le_of_ble_eq_true rfl) ?_
  intro p e s m args below meth c C hlk hr hin
  refine z_aload_n C 1 d_K_startTitle_0 rfl rfl ?_
  refine z_iload_n C 2 d_K_startTitle_1 rfl rfl ?_
  refine z_goA C (z_V C kc_K_35 (c_K_has G l a S x1) (st := []) 0 0 rfl rfl rfl rfl (Nat.le_of_ble_eq_true rfl) ⟨⟨Nat.le_of_ble_eq_true rfl, Nat.le_of_ble_eq_true rfl⟩, Nat.le_of_ble_eq_true rfl, Nat.le_of_ble_eq_true rfl⟩ d_K_startTitle_2) [.int (F_K_has S x1)] 5 rfl rfl ?_
  refine z_if_eq C 18 8 d_K_startTitle_5 (by decide) rfl (fun c_5 => ?_) (fun c_5 => ?_)
  · exact z_vret C hlk hr d_K_startTitle_18 (by rw [show F_K_startTitle S x1 = S from by rw [F_K_startTitle, if_pos c_5]] at hq; exact hq)
  · refine z_aload_n C 9 d_K_startTitle_8 rfl rfl ?_
    refine z_get C kf_K_18 0 (v := .ref (a 3)) 12 d_K_startTitle_9 rfl rfl rfl ?_
    refine z_iload_n C 13 d_K_startTitle_12 rfl rfl ?_
    refine z_aload_n C 14 d_K_startTitle_13 rfl rfl ?_
    refine z_get C kf_K_32 0 (v := .int (sK_signsUsed S)) 17 d_K_startTitle_14 rfl rfl rfl ?_
    refine z_iast C 3 0 (f := (sK_titleStarts S)) (wK G a (uK_titleStarts S (upd (sK_titleStarts S) (Int32.toNatClampNeg x1) (sK_signsUsed S)))) 18 d_K_startTitle_17 rfl rfl rfl (kx_has1 c_5) (wK_set_titleStarts G a S (upd (sK_titleStarts S) (Int32.toNatClampNeg x1) (sK_signsUsed S))) ?_
    exact z_vret C hlk hr d_K_startTitle_18 (by rw [show F_K_startTitle S x1 = (uK_titleStarts S (upd (sK_titleStarts S) (Int32.toNatClampNeg x1) (sK_signsUsed S))) from by rw [F_K_startTitle, if_neg c_5]] at hq; exact hq)

def F_K_timeBefore (S : SK) (x1 : Int32) : Int32 :=
  if x1 ≤ 0 then
    0
  else
    (F_K_number S (x1 - 1) 2)
set_option maxRecDepth 100000 in
set_option maxHeartbeats 4000000 in
theorem c_K_timeBefore (G : zG) (l : Launch) (a : Nat → Nat) (S : SK) (x1 : Int32)  : zM G l y_K_timeBefore b_K_timeBefore 2 (some .int) (zR 2 43) [.ref (a 0), .int x1] (wK G a S) (fun r1 w1 => r1 = some (.int (F_K_timeBefore S x1)) ∧ w1 = wK G a S) := by
  generalize hPost : (fun (r1 : Option Value) (w1 : va_W) => r1 = some (.int (F_K_timeBefore S x1)) ∧ w1 = wK G a S) = Post
  have hq : Post (some (.int (F_K_timeBefore S x1))) (wK G a S) := by rw [← hPost]; exact ⟨rfl, rfl⟩
  clear hPost
  refine zM_of (by decide) (Nat.le_of_ble_eq_true rfl) ?_
  intro p e s m args below meth c C hlk hr hin
  refine z_iload_n C 1 d_K_timeBefore_0 rfl rfl ?_
  refine z_if_le C 15 4 d_K_timeBefore_1 (by decide) rfl (fun c_1 => ?_) (fun c_1 => ?_)
  · refine z_iconst C 0 16 d_K_timeBefore_15 rfl (by decide) ?_
    exact z_iret C hlk hr d_K_timeBefore_16 (by rw [show F_K_timeBefore S x1 = 0 from by rw [F_K_timeBefore, if_pos c_1]] at hq; exact hq)
  · refine z_aload_n C 5 d_K_timeBefore_4 rfl rfl ?_
    refine z_iload_n C 6 d_K_timeBefore_5 rfl rfl ?_
    refine z_iconst C 1 7 d_K_timeBefore_6 rfl (by decide) ?_
    refine z_isub C 8 d_K_timeBefore_7 rfl ?_
    refine z_iconst C 2 9 d_K_timeBefore_8 rfl (by decide) ?_
    refine z_goA C (z_V C kc_K_83 (c_K_number G l a S (x1 - 1) 2) (st := []) 0 0 rfl rfl rfl rfl (Nat.le_of_ble_eq_true rfl) ⟨⟨Nat.le_of_ble_eq_true rfl, Nat.le_of_ble_eq_true rfl⟩, Nat.le_of_ble_eq_true rfl, Nat.le_of_ble_eq_true rfl⟩ d_K_timeBefore_9) [.int (F_K_number S (x1 - 1) 2)] 12 rfl rfl ?_
    refine z_goto C 16 d_K_timeBefore_12 (by decide) ?_
    exact z_iret C hlk hr d_K_timeBefore_16 (by rw [show F_K_timeBefore S x1 = (F_K_number S (x1 - 1) 2) from by rw [F_K_timeBefore, if_neg c_1]] at hq; exact hq)

def F_K_lastDay (S : SK) (x1 : Int32) : Int32 :=
  ((F_K_number S x1 0) + (((F_K_number S x1 2) - 1) * (F_K_number S x1 1)))
set_option maxRecDepth 100000 in
set_option maxHeartbeats 4000000 in
theorem c_K_lastDay (G : zG) (l : Launch) (a : Nat → Nat) (S : SK) (x1 : Int32)  : zM G l y_K_lastDay b_K_lastDay 2 (some .int) (zR 2 43) [.ref (a 0), .int x1] (wK G a S) (fun r1 w1 => r1 = some (.int (F_K_lastDay S x1)) ∧ w1 = wK G a S) := by
  generalize hPost : (fun (r1 : Option Value) (w1 : va_W) => r1 = some (.int (F_K_lastDay S x1)) ∧ w1 = wK G a S) = Post
  have hq : Post (some (.int (F_K_lastDay S x1))) (wK G a S) := by rw [← hPost]; exact ⟨rfl, rfl⟩
  clear hPost
  refine zM_of (by decide) (Nat.le_of_ble_eq_true rfl) ?_
  intro p e s m args below meth c C hlk hr hin
  refine z_aload_n C 1 d_K_lastDay_0 rfl rfl ?_
  refine z_iload_n C 2 d_K_lastDay_1 rfl rfl ?_
  refine z_iconst C 0 3 d_K_lastDay_2 rfl (by decide) ?_
  refine z_goA C (z_V C kc_K_83 (c_K_number G l a S x1 0) (st := []) 0 0 rfl rfl rfl rfl (Nat.le_of_ble_eq_true rfl) ⟨⟨Nat.le_of_ble_eq_true rfl, Nat.le_of_ble_eq_true rfl⟩, Nat.le_of_ble_eq_true rfl, Nat.le_of_ble_eq_true rfl⟩ d_K_lastDay_3) [.int (F_K_number S x1 0)] 6 rfl rfl ?_
  refine z_aload_n C 7 d_K_lastDay_6 rfl rfl ?_
  refine z_iload_n C 8 d_K_lastDay_7 rfl rfl ?_
  refine z_iconst C 2 9 d_K_lastDay_8 rfl (by decide) ?_
  refine z_goA C (z_V C kc_K_83 (c_K_number G l a S x1 2) (st := [.int (F_K_number S x1 0)]) 0 0 rfl rfl rfl rfl (Nat.le_of_ble_eq_true rfl) ⟨⟨Nat.le_of_ble_eq_true rfl, Nat.le_of_ble_eq_true rfl⟩, Nat.le_of_ble_eq_true rfl, Nat.le_of_ble_eq_true rfl⟩ d_K_lastDay_9) [.int (F_K_number S x1 2), .int (F_K_number S x1 0)] 12 rfl rfl ?_
  refine z_iconst C 1 13 d_K_lastDay_12 rfl (by decide) ?_
  refine z_isub C 14 d_K_lastDay_13 rfl ?_
  refine z_aload_n C 15 d_K_lastDay_14 rfl rfl ?_
  refine z_iload_n C 16 d_K_lastDay_15 rfl rfl ?_
  refine z_iconst C 1 17 d_K_lastDay_16 rfl (by decide) ?_
  refine z_goA C (z_V C kc_K_83 (c_K_number G l a S x1 1) (st := [.int ((F_K_number S x1 2) - 1), .int (F_K_number S x1 0)]) 0 0 rfl rfl rfl rfl (Nat.le_of_ble_eq_true rfl) ⟨⟨Nat.le_of_ble_eq_true rfl, Nat.le_of_ble_eq_true rfl⟩, Nat.le_of_ble_eq_true rfl, Nat.le_of_ble_eq_true rfl⟩ d_K_lastDay_17) [.int (F_K_number S x1 1), .int ((F_K_number S x1 2) - 1), .int (F_K_number S x1 0)] 20 rfl rfl ?_
  refine z_imul C 21 d_K_lastDay_20 rfl ?_
  refine z_iadd C 22 d_K_lastDay_21 rfl ?_
  exact z_iret C hlk hr d_K_lastDay_22 (by rw [show F_K_lastDay S x1 = ((F_K_number S x1 0) + (((F_K_number S x1 2) - 1) * (F_K_number S x1 1))) from by rw [F_K_lastDay]] at hq; exact hq)

def F_K_isPattern (S : SK) (x1 : Int32) : Int32 :=
  if (sK_kind S) = 2 then
    if (F_K_has S x1) = 0 then
      0
    else
      1
  else
    0
set_option maxRecDepth 100000 in
set_option maxHeartbeats 4000000 in
theorem c_K_isPattern (G : zG) (l : Launch) (a : Nat → Nat) (S : SK) (x1 : Int32)  : zM G l y_K_isPattern b_K_isPattern 2 (some .boolean) (zR 1 21) [.ref (a 0), .int x1] (wK G a S) (fun r1 w1 => r1 = some (.int (F_K_isPattern S x1)) ∧ w1 = wK G a S) := by
  generalize hPost : (fun (r1 : Option Value) (w1 : va_W) => r1 = some (.int (F_K_isPattern S x1)) ∧ w1 = wK G a S) = Post
  have hq : Post (some (.int (F_K_isPattern S x1))) (wK G a S) := by rw [← hPost]; exact ⟨rfl, rfl⟩
  clear hPost
  refine zM_of (by decide) (Nat.le_of_ble_eq_true rfl) ?_
  intro p e s m args below meth c C hlk hr hin
  refine z_aload_n C 1 d_K_isPattern_0 rfl rfl ?_
  refine z_get C kf_K_25 0 (v := .int (sK_kind S)) 4 d_K_isPattern_1 rfl rfl rfl ?_
  refine z_iconst C 2 5 d_K_isPattern_4 rfl (by decide) ?_
  refine z_icmp_ne C 20 8 d_K_isPattern_5 (by decide) rfl (fun c_5 => ?_) (fun c_5 => ?_)
  · refine z_iconst C 0 21 d_K_isPattern_20 rfl (by decide) ?_
    exact z_zret C hlk rfl hr d_K_isPattern_21 (by rw [show F_K_isPattern S x1 = 0 from by rw [F_K_isPattern, if_neg c_5]] at hq; exact hq)
  · refine z_aload_n C 9 d_K_isPattern_8 rfl rfl ?_
    refine z_iload_n C 10 d_K_isPattern_9 rfl rfl ?_
    refine z_goA C (z_V C kc_K_35 (c_K_has G l a S x1) (st := []) 0 0 rfl rfl rfl rfl (Nat.le_of_ble_eq_true rfl) ⟨⟨Nat.le_of_ble_eq_true rfl, Nat.le_of_ble_eq_true rfl⟩, Nat.le_of_ble_eq_true rfl, Nat.le_of_ble_eq_true rfl⟩ d_K_isPattern_10) [.int (F_K_has S x1)] 13 rfl rfl ?_
    refine z_if_eq C 20 16 d_K_isPattern_13 (by decide) rfl (fun c_13 => ?_) (fun c_13 => ?_)
    · refine z_iconst C 0 21 d_K_isPattern_20 rfl (by decide) ?_
      exact z_zret C hlk rfl hr d_K_isPattern_21 (by rw [show F_K_isPattern S x1 = 0 from by rw [F_K_isPattern, if_pos c_5, if_pos c_13]] at hq; exact hq)
    · refine z_iconst C 1 17 d_K_isPattern_16 rfl (by decide) ?_
      refine z_goto C 21 d_K_isPattern_17 (by decide) ?_
      exact z_zret C hlk rfl hr d_K_isPattern_21 (by rw [show F_K_isPattern S x1 = 1 from by rw [F_K_isPattern, if_pos c_5, if_neg c_13]] at hq; exact hq)
