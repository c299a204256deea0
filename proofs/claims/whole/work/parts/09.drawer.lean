
theorem zi_nn {i b : Int32} (h : ¬ b ≤ i) (hi : ¬ i < 0) : ¬ i + 1 < 0 := by
  have h0 : i < b := Int32.not_le.mp h
  have h1 := Int32.le_iff_toInt_le.mp (Int32.not_lt.mp hi)
  intro q
  have h2 := Int32.lt_iff_toInt_lt.mp q
  rw [zi_succ h0] at h2
  have e0 : (0 : Int32).toInt = 0 := by decide
  omega
theorem zdecL {i b : Int32} {n : Nat} (hb : b.toInt < 2147483647) (h : ¬ b < i) (hm : (b.toInt + 1 - i.toInt).toNat < n + 1) : (b.toInt + 1 - (i + 1).toInt).toNat < n := by
  have h0 : i ≤ b := Int32.not_lt.mp h
  have h1 := Int32.le_iff_toInt_le.mp h0
  have h3 := Int32.le_toInt i
  rw [Int32.toInt_add]
  have e1 : (1 : Int32).toInt = 1 := by decide
  rw [e1, Int.bmod_eq_of_le (by omega) (by omega)]
  omega

def F_R_clear (S : SR)  : SR :=
  (uR_told S 0)
set_option maxRecDepth 100000 in
set_option maxHeartbeats 4000000 in
theorem c_R_clear (G : zG) (l : Launch) (a : Nat → Nat) (S : SR)   : zM G l y_R_clear b_R_clear 1 (none) (zR 0 0) [.ref (a 0)] (wR G a S) (fun r1 w1 => r1 = none ∧ w1 = wR G a (F_R_clear S)) := by
  generalize hPost : (fun (r1 : Option Value) (w1 : va_W) => r1 = none ∧ w1 = wR G a (F_R_clear S)) = Post
  have hq : Post (none) (wR G a (F_R_clear S)) := by rw [← hPost]; exact ⟨rfl, rfl⟩
  clear hPost
  refine zM_of (by decide) (Nat.le_of_ble_eq_true rfl) ?_
  intro p e s m args below meth c C hlk hr hin
  refine z_aload_n C 1 d_R_clear_0 rfl rfl ?_
  refine z_iconst C 0 2 d_R_clear_1 rfl (by decide) ?_
  refine z_put C kf_R_15 kp_R 0 (wR G a (uR_told S 0)) 5 d_R_clear_2 rfl rfl rfl (znr_i _) (zft_i _) (Nat.le_of_ble_eq_true rfl) (wR_put_told G a S 0) ?_
  exact z_vret C hlk hr d_R_clear_5 (by rw [show F_R_clear S = (uR_told S 0) from by rw [F_R_clear]] at hq; exact hq)

def F_R_add (S : SR) (x1 : Int32) : SR :=
  if (sR_told S) < 0 then
    S
  else
    if 6 ≤ (sR_told S) then
      S
    else
      (uR_told (uR_rows S (upd (sR_rows S) (Int32.toNatClampNeg (sR_told S)) x1)) ((sR_told S) + 1))
set_option maxRecDepth 100000 in
set_option maxHeartbeats 4000000 in
theorem c_R_add (G : zG) (l : Launch) (a : Nat → Nat) (S : SR) (x1 : Int32)  : zM G l y_R_add b_R_add 2 (none) (zR 0 0) [.ref (a 0), .int x1] (wR G a S) (fun r1 w1 => r1 = none ∧ w1 = wR G a (F_R_add S x1)) := by
  generalize hPost : (fun (r1 : Option Value) (w1 : va_W) => r1 = none ∧ w1 = wR G a (F_R_add S x1)) = Post
  have hq : Post (none) (wR G a (F_R_add S x1)) := by rw [← hPost]; exact ⟨rfl, rfl⟩
  clear hPost
  refine zM_of (by decide) (Nat.le_of_ble_eq_true rfl) ?_
  intro p e s m args below meth c C hlk hr hin
  refine z_aload_n C 1 d_R_add_0 rfl rfl ?_
  refine z_get C kf_R_15 0 (v := .int (sR_told S)) 4 d_R_add_1 rfl rfl rfl ?_
  refine z_if_lt C 39 7 d_R_add_4 (by decide) rfl (fun c_4 => ?_) (fun c_4 => ?_)
  · exact z_vret C hlk hr d_R_add_39 (by rw [show F_R_add S x1 = S from by rw [F_R_add, if_pos c_4]] at hq; exact hq)
  · refine z_aload_n C 8 d_R_add_7 rfl rfl ?_
    refine z_get C kf_R_15 0 (v := .int (sR_told S)) 11 d_R_add_8 rfl rfl rfl ?_
    refine z_aload_n C 12 d_R_add_11 rfl rfl ?_
    refine z_get C kf_R_9 0 (v := .ref (a 1)) 15 d_R_add_12 rfl rfl rfl ?_
    refine z_alen C 1 0 6 16 d_R_add_15 rfl rfl rfl rfl ?_
    refine z_icmp_ge C 39 19 d_R_add_16 (by decide) rfl (fun c_16 => ?_) (fun c_16 => ?_)
    · exact z_vret C hlk hr d_R_add_39 (by rw [show F_R_add S x1 = S from by rw [F_R_add, if_neg c_4, if_pos c_16]] at hq; exact hq)
    · refine z_aload_n C 20 d_R_add_19 rfl rfl ?_
      refine z_get C kf_R_9 0 (v := .ref (a 1)) 23 d_R_add_20 rfl rfl rfl ?_
      refine z_aload_n C 24 d_R_add_23 rfl rfl ?_
      refine z_get C kf_R_15 0 (v := .int (sR_told S)) 27 d_R_add_24 rfl rfl rfl ?_
      refine z_iload_n C 28 d_R_add_27 rfl rfl ?_
      refine z_iast C 1 0 (f := (sR_rows S)) (wR G a (uR_rows S (upd (sR_rows S) (Int32.toNatClampNeg (sR_told S)) x1))) 29 d_R_add_28 rfl rfl rfl (kx_ix rfl (by decide) c_4 (Int32.not_le.mp c_16)) (wR_set_rows G a S (upd (sR_rows S) (Int32.toNatClampNeg (sR_told S)) x1)) ?_
      refine z_aload_n C 30 d_R_add_29 rfl rfl ?_
      refine z_dup C 31 d_R_add_30 rfl rfl ?_
      refine z_get C kf_R_15 0 (v := .int (sR_told S)) 34 d_R_add_31 rfl rfl rfl ?_
      refine z_iconst C 1 35 d_R_add_34 rfl (by decide) ?_
      refine z_iadd C 36 d_R_add_35 rfl ?_
      refine z_put C kf_R_15 kp_R 0 (wR G a (uR_told (uR_rows S (upd (sR_rows S) (Int32.toNatClampNeg (sR_told S)) x1)) ((sR_told S) + 1))) 39 d_R_add_36 rfl rfl rfl (znr_i _) (zft_i _) (Nat.le_of_ble_eq_true rfl) (wR_put_told G a (uR_rows S (upd (sR_rows S) (Int32.toNatClampNeg (sR_told S)) x1)) ((sR_told S) + 1)) ?_
      exact z_vret C hlk hr d_R_add_39 (by rw [show F_R_add S x1 = (uR_told (uR_rows S (upd (sR_rows S) (Int32.toNatClampNeg (sR_told S)) x1)) ((sR_told S) + 1)) from by rw [F_R_add, if_neg c_4, if_neg c_16]] at hq; exact hq)

def L_R_oneIsWithin_2 : Nat → SR → Int32 → Int32 → Int32
  | 0, S, v1, v2 => 0
  | n + 1, S, v1, v2 =>
    if (sR_told S) ≤ v2 then
      0
    else
      if 6 ≤ v2 then
        0
      else
        if (((sR_rows S) (Int32.toNatClampNeg v2)) &&& v1) = ((sR_rows S) (Int32.toNatClampNeg v2)) then
          1
        else
          (L_R_oneIsWithin_2 n S v1 (v2 + 1))
set_option maxRecDepth 100000 in
set_option maxHeartbeats 4000000 in
theorem l_R_oneIsWithin_2 (G : zG) (l : Launch) (a : Nat → Nat) {p : Program} {e : Env} {s : State} {m : MethodId} {args : Array Value} {below : List Frame} {meth : Method} {c : Code} {w0 : va_W} {Post : Option Value → va_W → Prop} (C : zC p s m args meth c b_R_oneIsWithin 3 N_R G (va_A w0 s.heap.size)) (hlk : meth.locks = false) (hr : meth.sig.returnType = some .boolean) :
    ∀ (n : Nat) (S : SR) (v1 : Int32) (v2 : Int32), (Int32.toInt (sR_told S) - Int32.toInt v2).toNat < n → (¬ v2 < 0) → Post (some (.int (L_R_oneIsWithin_2 n S v1 v2))) (wR G a S) → zV p l e (zR 0 0) s m args below meth c 3 G (va_A w0 s.heap.size) (MQ below (zQ G w0 s.heap.size Post) args s 0 0 (va_A w0 s.heap.size)) 0 0 (wR G a S) 2 [(0, .ref (a 0)), (1, .int v1), (2, .int v2)] [] := by
  intro n
  induction n with
  | zero => intro S v1 v2 h; exact absurd h (Nat.not_lt_zero _)
  | succ n ih =>
    intro S v1 v2 hmu hpre hq
    refine z_iload_n C 3 d_R_oneIsWithin_2 rfl rfl ?_
    refine z_aload_n C 4 d_R_oneIsWithin_3 rfl rfl ?_
    refine z_get C kf_R_15 0 (v := .int (sR_told S)) 7 d_R_oneIsWithin_4 rfl rfl rfl ?_
    refine z_icmp_ge C 44 10 d_R_oneIsWithin_7 (by decide) rfl (fun c_7 => ?_) (fun c_7 => ?_)
    · refine z_iconst C 0 45 d_R_oneIsWithin_44 rfl (by decide) ?_
      exact z_zret C hlk rfl hr d_R_oneIsWithin_45 (by rw [show L_R_oneIsWithin_2 (n + 1) S v1 v2 = 0 from by rw [L_R_oneIsWithin_2, if_pos c_7]] at hq; exact hq)
    · refine z_iload_n C 11 d_R_oneIsWithin_10 rfl rfl ?_
      refine z_aload_n C 12 d_R_oneIsWithin_11 rfl rfl ?_
      refine z_get C kf_R_9 0 (v := .ref (a 1)) 15 d_R_oneIsWithin_12 rfl rfl rfl ?_
      refine z_alen C 1 0 6 16 d_R_oneIsWithin_15 rfl rfl rfl rfl ?_
      refine z_icmp_ge C 44 19 d_R_oneIsWithin_16 (by decide) rfl (fun c_16 => ?_) (fun c_16 => ?_)
      · refine z_iconst C 0 45 d_R_oneIsWithin_44 rfl (by decide) ?_
        exact z_zret C hlk rfl hr d_R_oneIsWithin_45 (by rw [show L_R_oneIsWithin_2 (n + 1) S v1 v2 = 0 from by rw [L_R_oneIsWithin_2, if_neg c_7, if_pos c_16]] at hq; exact hq)
      · refine z_aload_n C 20 d_R_oneIsWithin_19 rfl rfl ?_
        refine z_get C kf_R_9 0 (v := .ref (a 1)) 23 d_R_oneIsWithin_20 rfl rfl rfl ?_
        refine z_iload_n C 24 d_R_oneIsWithin_23 rfl rfl ?_
        refine z_iald C 1 0 (f := (sR_rows S)) 25 d_R_oneIsWithin_24 rfl rfl rfl (kx_ix rfl (by decide) hpre (Int32.not_le.mp c_16)) ?_
        refine z_iload_n C 26 d_R_oneIsWithin_25 rfl rfl ?_
        refine z_iand C 27 d_R_oneIsWithin_26 rfl ?_
        refine z_aload_n C 28 d_R_oneIsWithin_27 rfl rfl ?_
        refine z_get C kf_R_9 0 (v := .ref (a 1)) 31 d_R_oneIsWithin_28 rfl rfl rfl ?_
        refine z_iload_n C 32 d_R_oneIsWithin_31 rfl rfl ?_
        refine z_iald C 1 0 (f := (sR_rows S)) 33 d_R_oneIsWithin_32 rfl rfl rfl (kx_ix rfl (by decide) hpre (Int32.not_le.mp c_16)) ?_
        refine z_icmp_ne C 38 36 d_R_oneIsWithin_33 (by decide) rfl (fun c_33 => ?_) (fun c_33 => ?_)
        · refine z_iinc C (v2 + 1) [(2, .int (v2 + 1)), (0, .ref (a 0)), (1, .int v1)] 41 d_R_oneIsWithin_38 rfl (by decide) rfl rfl rfl ?_
          refine z_goto C 2 d_R_oneIsWithin_41 (by decide) ?_
          refine z_lvs [1, 2, 0] [(0, .ref (a 0)), (1, .int v1), (2, .int (v2 + 1))] rfl ?_
          exact ih S v1 (v2 + 1) (zdec c_7 hmu) (zi_nn c_7 hpre) (by rw [show L_R_oneIsWithin_2 (n + 1) S v1 v2 = (L_R_oneIsWithin_2 n S v1 (v2 + 1)) from by rw [L_R_oneIsWithin_2, if_neg c_7, if_neg c_16, if_neg c_33]] at hq; exact hq)
        · refine z_iconst C 1 37 d_R_oneIsWithin_36 rfl (by decide) ?_
          exact z_zret C hlk rfl hr d_R_oneIsWithin_37 (by rw [show L_R_oneIsWithin_2 (n + 1) S v1 v2 = 1 from by rw [L_R_oneIsWithin_2, if_neg c_7, if_neg c_16, if_pos c_33]] at hq; exact hq)
def F_R_oneIsWithin (S : SR) (x1 : Int32) : Int32 :=
  (L_R_oneIsWithin_2 ((Int32.toInt (sR_told S) - Int32.toInt 0).toNat + 1) S x1 0)
set_option maxRecDepth 100000 in
set_option maxHeartbeats 4000000 in
theorem c_R_oneIsWithin (G : zG) (l : Launch) (a : Nat → Nat) (S : SR) (x1 : Int32)  : zM G l y_R_oneIsWithin b_R_oneIsWithin 3 (some .boolean) (zR 0 0) [.ref (a 0), .int x1] (wR G a S) (fun r1 w1 => r1 = some (.int (F_R_oneIsWithin S x1)) ∧ w1 = wR G a S) := by
  generalize hPost : (fun (r1 : Option Value) (w1 : va_W) => r1 = some (.int (F_R_oneIsWithin S x1)) ∧ w1 = wR G a S) = Post
  have hq : Post (some (.int (F_R_oneIsWithin S x1))) (wR G a S) := by rw [← hPost]; exact ⟨rfl, rfl⟩
  clear hPost
  refine zM_of (by decide) (Nat.le_of_ble_eq_true rfl) ?_
  intro p e s m args below meth c C hlk hr hin
  refine z_iconst C 0 1 d_R_oneIsWithin_0 rfl (by decide) ?_
  refine z_istore_n C [(2, .int 0), (0, .ref (a 0)), (1, .int x1)] 2 d_R_oneIsWithin_1 rfl (by decide) rfl ?_
  refine z_lvs [1, 2, 0] [(0, .ref (a 0)), (1, .int x1), (2, .int 0)] rfl ?_
  exact l_R_oneIsWithin_2 G l a C hlk hr _ S x1 0 (Nat.lt_succ_self _) (by decide) (by rw [show F_R_oneIsWithin S x1 = (L_R_oneIsWithin_2 ((Int32.toInt (sR_told S) - Int32.toInt 0).toNat + 1) S x1 0) from by rw [F_R_oneIsWithin]] at hq; exact hq)

def L_R_oneIsTornBy_2 : Nat → SR → Int32 → Int32 → Int32
  | 0, S, v1, v2 => 0
  | n + 1, S, v1, v2 =>
    if (sR_told S) ≤ v2 then
      0
    else
      if 6 ≤ v2 then
        0
      else
        if (((sR_rows S) (Int32.toNatClampNeg v2)) &&& v1) = 0 then
          (L_R_oneIsTornBy_2 n S v1 (v2 + 1))
        else
          if (((sR_rows S) (Int32.toNatClampNeg v2)) &&& v1) = ((sR_rows S) (Int32.toNatClampNeg v2)) then
            (L_R_oneIsTornBy_2 n S v1 (v2 + 1))
          else
            1
set_option maxRecDepth 100000 in
set_option maxHeartbeats 4000000 in
theorem l_R_oneIsTornBy_2 (G : zG) (l : Launch) (a : Nat → Nat) {p : Program} {e : Env} {s : State} {m : MethodId} {args : Array Value} {below : List Frame} {meth : Method} {c : Code} {w0 : va_W} {Post : Option Value → va_W → Prop} (C : zC p s m args meth c b_R_oneIsTornBy 4 N_R G (va_A w0 s.heap.size)) (hlk : meth.locks = false) (hr : meth.sig.returnType = some .boolean) :
    ∀ (n : Nat) (S : SR) (v1 : Int32) (v2 : Int32), (Int32.toInt (sR_told S) - Int32.toInt v2).toNat < n → (¬ v2 < 0) → Post (some (.int (L_R_oneIsTornBy_2 n S v1 v2))) (wR G a S) → zV p l e (zR 0 0) s m args below meth c 4 G (va_A w0 s.heap.size) (MQ below (zQ G w0 s.heap.size Post) args s 0 0 (va_A w0 s.heap.size)) 0 0 (wR G a S) 2 [(0, .ref (a 0)), (1, .int v1), (2, .int v2)] [] := by
  intro n
  induction n with
  | zero => intro S v1 v2 h; exact absurd h (Nat.not_lt_zero _)
  | succ n ih =>
    intro S v1 v2 hmu hpre hq
    refine z_iload_n C 3 d_R_oneIsTornBy_2 rfl rfl ?_
    refine z_aload_n C 4 d_R_oneIsTornBy_3 rfl rfl ?_
    refine z_get C kf_R_15 0 (v := .int (sR_told S)) 7 d_R_oneIsTornBy_4 rfl rfl rfl ?_
    refine z_icmp_ge C 50 10 d_R_oneIsTornBy_7 (by decide) rfl (fun c_7 => ?_) (fun c_7 => ?_)
    · refine z_iconst C 0 51 d_R_oneIsTornBy_50 rfl (by decide) ?_
      exact z_zret C hlk rfl hr d_R_oneIsTornBy_51 (by rw [show L_R_oneIsTornBy_2 (n + 1) S v1 v2 = 0 from by rw [L_R_oneIsTornBy_2, if_pos c_7]] at hq; exact hq)
    · refine z_iload_n C 11 d_R_oneIsTornBy_10 rfl rfl ?_
      refine z_aload_n C 12 d_R_oneIsTornBy_11 rfl rfl ?_
      refine z_get C kf_R_9 0 (v := .ref (a 1)) 15 d_R_oneIsTornBy_12 rfl rfl rfl ?_
      refine z_alen C 1 0 6 16 d_R_oneIsTornBy_15 rfl rfl rfl rfl ?_
      refine z_icmp_ge C 50 19 d_R_oneIsTornBy_16 (by decide) rfl (fun c_16 => ?_) (fun c_16 => ?_)
      · refine z_iconst C 0 51 d_R_oneIsTornBy_50 rfl (by decide) ?_
        exact z_zret C hlk rfl hr d_R_oneIsTornBy_51 (by rw [show L_R_oneIsTornBy_2 (n + 1) S v1 v2 = 0 from by rw [L_R_oneIsTornBy_2, if_neg c_7, if_pos c_16]] at hq; exact hq)
      · refine z_aload_n C 20 d_R_oneIsTornBy_19 rfl rfl ?_
        refine z_get C kf_R_9 0 (v := .ref (a 1)) 23 d_R_oneIsTornBy_20 rfl rfl rfl ?_
        refine z_iload_n C 24 d_R_oneIsTornBy_23 rfl rfl ?_
        refine z_iald C 1 0 (f := (sR_rows S)) 25 d_R_oneIsTornBy_24 rfl rfl rfl (kx_ix rfl (by decide) hpre (Int32.not_le.mp c_16)) ?_
        refine z_iload_n C 26 d_R_oneIsTornBy_25 rfl rfl ?_
        refine z_iand C 27 d_R_oneIsTornBy_26 rfl ?_
        refine z_istore_n C [(3, .int (((sR_rows S) (Int32.toNatClampNeg v2)) &&& v1)), (0, .ref (a 0)), (1, .int v1), (2, .int v2)] 28 d_R_oneIsTornBy_27 rfl (by decide) rfl ?_
        refine z_iload_n C 29 d_R_oneIsTornBy_28 rfl rfl ?_
        refine z_if_eq C 44 32 d_R_oneIsTornBy_29 (by decide) rfl (fun c_29 => ?_) (fun c_29 => ?_)
        · refine z_iinc C (v2 + 1) [(2, .int (v2 + 1)), (3, .int (((sR_rows S) (Int32.toNatClampNeg v2)) &&& v1)), (0, .ref (a 0)), (1, .int v1)] 47 d_R_oneIsTornBy_44 rfl (by decide) rfl rfl rfl ?_
          refine z_goto C 2 d_R_oneIsTornBy_47 (by decide) ?_
          refine z_lvs [2, 3, 0] [(0, .ref (a 0)), (1, .int v1), (2, .int (v2 + 1))] rfl ?_
          exact ih S v1 (v2 + 1) (zdec c_7 hmu) (zi_nn c_7 hpre) (by rw [show L_R_oneIsTornBy_2 (n + 1) S v1 v2 = (L_R_oneIsTornBy_2 n S v1 (v2 + 1)) from by rw [L_R_oneIsTornBy_2, if_neg c_7, if_neg c_16, if_pos c_29]] at hq; exact hq)
        · refine z_iload_n C 33 d_R_oneIsTornBy_32 rfl rfl ?_
          refine z_aload_n C 34 d_R_oneIsTornBy_33 rfl rfl ?_
          refine z_get C kf_R_9 0 (v := .ref (a 1)) 37 d_R_oneIsTornBy_34 rfl rfl rfl ?_
          refine z_iload_n C 38 d_R_oneIsTornBy_37 rfl rfl ?_
          refine z_iald C 1 0 (f := (sR_rows S)) 39 d_R_oneIsTornBy_38 rfl rfl rfl (kx_ix rfl (by decide) hpre (Int32.not_le.mp c_16)) ?_
          refine z_icmp_eq C 44 42 d_R_oneIsTornBy_39 (by decide) rfl (fun c_39 => ?_) (fun c_39 => ?_)
          · refine z_iinc C (v2 + 1) [(2, .int (v2 + 1)), (3, .int (((sR_rows S) (Int32.toNatClampNeg v2)) &&& v1)), (0, .ref (a 0)), (1, .int v1)] 47 d_R_oneIsTornBy_44 rfl (by decide) rfl rfl rfl ?_
            refine z_goto C 2 d_R_oneIsTornBy_47 (by decide) ?_
            refine z_lvs [2, 3, 0] [(0, .ref (a 0)), (1, .int v1), (2, .int (v2 + 1))] rfl ?_
            exact ih S v1 (v2 + 1) (zdec c_7 hmu) (zi_nn c_7 hpre) (by rw [show L_R_oneIsTornBy_2 (n + 1) S v1 v2 = (L_R_oneIsTornBy_2 n S v1 (v2 + 1)) from by rw [L_R_oneIsTornBy_2, if_neg c_7, if_neg c_16, if_neg c_29, if_pos c_39]] at hq; exact hq)
          · refine z_iconst C 1 43 d_R_oneIsTornBy_42 rfl (by decide) ?_
            exact z_zret C hlk rfl hr d_R_oneIsTornBy_43 (by rw [show L_R_oneIsTornBy_2 (n + 1) S v1 v2 = 1 from by rw [L_R_oneIsTornBy_2, if_neg c_7, if_neg c_16, if_neg c_29, if_neg c_39]] at hq; exact hq)
def F_R_oneIsTornBy (S : SR) (x1 : Int32) : Int32 :=
  (L_R_oneIsTornBy_2 ((Int32.toInt (sR_told S) - Int32.toInt 0).toNat + 1) S x1 0)
set_option maxRecDepth 100000 in
set_option maxHeartbeats 4000000 in
theorem c_R_oneIsTornBy (G : zG) (l : Launch) (a : Nat → Nat) (S : SR) (x1 : Int32)  : zM G l y_R_oneIsTornBy b_R_oneIsTornBy 4 (some .boolean) (zR 0 0) [.ref (a 0), .int x1] (wR G a S) (fun r1 w1 => r1 = some (.int (F_R_oneIsTornBy S x1)) ∧ w1 = wR G a S) := by
  generalize hPost : (fun (r1 : Option Value) (w1 : va_W) => r1 = some (.int (F_R_oneIsTornBy S x1)) ∧ w1 = wR G a S) = Post
  have hq : Post (some (.int (F_R_oneIsTornBy S x1))) (wR G a S) := by rw [← hPost]; exact ⟨rfl, rfl⟩
  clear hPost
  refine zM_of (by decide) (Nat.le_of_ble_eq_true rfl) ?_
  intro p e s m args below meth c C hlk hr hin
  refine z_iconst C 0 1 d_R_oneIsTornBy_0 rfl (by decide) ?_
  refine z_istore_n C [(2, .int 0), (0, .ref (a 0)), (1, .int x1)] 2 d_R_oneIsTornBy_1 rfl (by decide) rfl ?_
  refine z_lvs [1, 2, 0] [(0, .ref (a 0)), (1, .int x1), (2, .int 0)] rfl ?_
  exact l_R_oneIsTornBy_2 G l a C hlk hr _ S x1 0 (Nat.lt_succ_self _) (by decide) (by rw [show F_R_oneIsTornBy S x1 = (L_R_oneIsTornBy_2 ((Int32.toInt (sR_told S) - Int32.toInt 0).toNat + 1) S x1 0) from by rw [F_R_oneIsTornBy]] at hq; exact hq)

def F_D_isIn (x0 : Int32) (x1 : Int32) : Int32 :=
  if (x1 &&& (1 <<< (x0 &&& 31))) = 0 then
    0
  else
    1
set_option maxRecDepth 100000 in
set_option maxHeartbeats 4000000 in
theorem c_D_isIn (G : zG) (l : Launch) (x0 : Int32) (x1 : Int32)  : zM G l y_D_isIn b_D_isIn 2 (some .boolean) (zR 0 0) [.int x0, .int x1] ([]) (fun r1 w1 => r1 = some (.int (F_D_isIn x0 x1)) ∧ w1 = []) := by
  generalize hPost : (fun (r1 : Option Value) (w1 : va_W) => r1 = some (.int (F_D_isIn x0 x1)) ∧ w1 = []) = Post
  have hq : Post (some (.int (F_D_isIn x0 x1))) ([]) := by rw [← hPost]; exact ⟨rfl, rfl⟩
  clear hPost
  refine zM_of (by decide) (Nat.le_of_ble_eq_true rfl) ?_
  intro p e s m args below meth c C hlk hr hin
  refine z_iload_n C 1 d_D_isIn_0 rfl rfl ?_
  refine z_iconst C 1 2 d_D_isIn_1 rfl (by decide) ?_
  refine z_iload_n C 3 d_D_isIn_2 rfl rfl ?_
  refine z_ishl C 4 d_D_isIn_3 rfl ?_
  refine z_iand C 5 d_D_isIn_4 rfl ?_
  refine z_if_eq C 12 8 d_D_isIn_5 (by decide) rfl (fun c_5 => ?_) (fun c_5 => ?_)
  · refine z_iconst C 0 13 d_D_isIn_12 rfl (by decide) ?_
    exact z_zret C hlk rfl hr d_D_isIn_13 (by rw [show F_D_isIn x0 x1 = 0 from by rw [F_D_isIn, if_pos c_5]] at hq; exact hq)
  · refine z_iconst C 1 9 d_D_isIn_8 rfl (by decide) ?_
    refine z_goto C 13 d_D_isIn_9 (by decide) ?_
    exact z_zret C hlk rfl hr d_D_isIn_13 (by rw [show F_D_isIn x0 x1 = 1 from by rw [F_D_isIn, if_neg c_5]] at hq; exact hq)

def F_D_without (x0 : Int32) (x1 : Int32) : Int32 :=
  (x1 &&& ((1 <<< (x0 &&& 31)) ^^^ (-1)))
set_option maxRecDepth 100000 in
set_option maxHeartbeats 4000000 in
theorem c_D_without (G : zG) (l : Launch) (x0 : Int32) (x1 : Int32)  : zM G l y_D_without b_D_without 2 (some .int) (zR 0 0) [.int x0, .int x1] ([]) (fun r1 w1 => r1 = some (.int (F_D_without x0 x1)) ∧ w1 = []) := by
  generalize hPost : (fun (r1 : Option Value) (w1 : va_W) => r1 = some (.int (F_D_without x0 x1)) ∧ w1 = []) = Post
  have hq : Post (some (.int (F_D_without x0 x1))) ([]) := by rw [← hPost]; exact ⟨rfl, rfl⟩
  clear hPost
  refine zM_of (by decide) (Nat.le_of_ble_eq_true rfl) ?_
  intro p e s m args below meth c C hlk hr hin
  refine z_iload_n C 1 d_D_without_0 rfl rfl ?_
  refine z_iconst C 1 2 d_D_without_1 rfl (by decide) ?_
  refine z_iload_n C 3 d_D_without_2 rfl rfl ?_
  refine z_ishl C 4 d_D_without_3 rfl ?_
  refine z_iconst C (-1) 5 d_D_without_4 rfl (by decide) ?_
  refine z_ixor C 6 d_D_without_5 rfl ?_
  refine z_iand C 7 d_D_without_6 rfl ?_
  exact z_iret C hlk hr d_D_without_7 (by rw [show F_D_without x0 x1 = (x1 &&& ((1 <<< (x0 &&& 31)) ^^^ (-1))) from by rw [F_D_without]] at hq; exact hq)

def F_D_staysFor (S : SD) (x1 : Int32) : Int32 :=
  if (F_R_oneIsWithin (sD_needed S) x1) = 0 then
    0
  else
    if (F_R_oneIsTornBy (sD_together S) x1) = 0 then
      1
    else
      0
set_option maxRecDepth 100000 in
set_option maxHeartbeats 4000000 in
theorem c_D_staysFor (G : zG) (l : Launch) (a : Nat → Nat) (S : SD) (x1 : Int32)  : zM G l y_D_staysFor b_D_staysFor 2 (some .boolean) (zR 1 23) [.ref (a 0), .int x1] (wD G a S) (fun r1 w1 => r1 = some (.int (F_D_staysFor S x1)) ∧ w1 = wD G a S) := by
  generalize hPost : (fun (r1 : Option Value) (w1 : va_W) => r1 = some (.int (F_D_staysFor S x1)) ∧ w1 = wD G a S) = Post
  have hq : Post (some (.int (F_D_staysFor S x1))) (wD G a S) := by rw [← hPost]; exact ⟨rfl, rfl⟩
  clear hPost
  refine zM_of (by decide) (Nat.le_of_ble_eq_true rfl) ?_
  intro p e s m args below meth c C hlk hr hin
  refine z_aload_n C 1 d_D_staysFor_0 rfl rfl ?_
  refine z_get C kf_D_25 0 (v := .ref (a 13)) 4 d_D_staysFor_1 rfl rfl rfl ?_
  refine z_iload_n C 5 d_D_staysFor_4 rfl rfl ?_
  refine z_go_needed_ro C (z_V C kc_D_107 (c_R_oneIsWithin G l (fun i => a (i + 13)) (sD_needed S) x1) (st := []) 0 1 rfl rfl rfl rfl (Nat.le_of_ble_eq_true rfl) ⟨⟨Nat.le_of_ble_eq_true rfl, Nat.le_of_ble_eq_true rfl⟩, Nat.le_of_ble_eq_true rfl, Nat.le_of_ble_eq_true rfl⟩ d_D_staysFor_5) [.int (F_R_oneIsWithin (sD_needed S) x1)] 8 rfl rfl ?_
  refine z_if_eq C 26 11 d_D_staysFor_8 (by decide) rfl (fun c_8 => ?_) (fun c_8 => ?_)
  · refine z_iconst C 0 27 d_D_staysFor_26 rfl (by decide) ?_
    exact z_zret C hlk rfl hr d_D_staysFor_27 (by rw [show F_D_staysFor S x1 = 0 from by rw [F_D_staysFor, if_pos c_8]] at hq; exact hq)
  · refine z_aload_n C 12 d_D_staysFor_11 rfl rfl ?_
    refine z_get C kf_D_29 0 (v := .ref (a 15)) 15 d_D_staysFor_12 rfl rfl rfl ?_
    refine z_iload_n C 16 d_D_staysFor_15 rfl rfl ?_
    refine z_go_together_ro C (z_V C kc_D_110 (c_R_oneIsTornBy G l (fun i => a (i + 15)) (sD_together S) x1) (st := []) 0 1 rfl rfl rfl rfl (Nat.le_of_ble_eq_true rfl) ⟨⟨Nat.le_of_ble_eq_true rfl, Nat.le_of_ble_eq_true rfl⟩, Nat.le_of_ble_eq_true rfl, Nat.le_of_ble_eq_true rfl⟩ d_D_staysFor_16) [.int (F_R_oneIsTornBy (sD_together S) x1)] 19 rfl rfl ?_
    refine z_if_ne C 26 22 d_D_staysFor_19 (by decide) rfl (fun c_19 => ?_) (fun c_19 => ?_)
    · refine z_iconst C 0 27 d_D_staysFor_26 rfl (by decide) ?_
      exact z_zret C hlk rfl hr d_D_staysFor_27 (by rw [show F_D_staysFor S x1 = 0 from by rw [F_D_staysFor, if_neg c_8, if_neg c_19]] at hq; exact hq)
    · refine z_iconst C 1 23 d_D_staysFor_22 rfl (by decide) ?_
      refine z_goto C 27 d_D_staysFor_23 (by decide) ?_
      exact z_zret C hlk rfl hr d_D_staysFor_27 (by rw [show F_D_staysFor S x1 = 1 from by rw [F_D_staysFor, if_neg c_8, if_pos c_19]] at hq; exact hq)

def F_D_part (S : SD) (x1 : Int32) (x2 : Int32) : Int32 :=
  (F_K_number (sD_drawn S) x1 x2)
set_option maxRecDepth 100000 in
set_option maxHeartbeats 4000000 in
theorem c_D_part (G : zG) (l : Launch) (a : Nat → Nat) (S : SD) (x1 : Int32) (x2 : Int32)  : zM G l y_D_part b_D_part 3 (some .int) (zR 2 43) [.ref (a 0), .int x1, .int x2] (wD G a S) (fun r1 w1 => r1 = some (.int (F_D_part S x1 x2)) ∧ w1 = wD G a S) := by
  generalize hPost : (fun (r1 : Option Value) (w1 : va_W) => r1 = some (.int (F_D_part S x1 x2)) ∧ w1 = wD G a S) = Post
  have hq : Post (some (.int (F_D_part S x1 x2))) (wD G a S) := by rw [← hPost]; exact ⟨rfl, rfl⟩
  clear hPost
  refine zM_of (by decide) (Nat.le_of_ble_eq_true rfl) ?_
  intro p e s m args below meth c C hlk hr hin
  refine z_aload_n C 1 d_D_part_0 rfl rfl ?_
  refine z_get C kf_D_12 0 (v := .ref (a 1)) 4 d_D_part_1 rfl rfl rfl ?_
  refine z_iload_n C 5 d_D_part_4 rfl rfl ?_
  refine z_iload_n C 6 d_D_part_5 rfl rfl ?_
  refine z_go_drawn_ro C (z_V C kc_D_58 (c_K_number G l (fun i => a (i + 1)) (sD_drawn S) x1 x2) (st := []) 0 0 rfl rfl rfl rfl (Nat.le_of_ble_eq_true rfl) ⟨⟨Nat.le_of_ble_eq_true rfl, Nat.le_of_ble_eq_true rfl⟩, Nat.le_of_ble_eq_true rfl, Nat.le_of_ble_eq_true rfl⟩ d_D_part_6) [.int (F_K_number (sD_drawn S) x1 x2)] 9 rfl rfl ?_
  exact z_iret C hlk hr d_D_part_9 (by rw [show F_D_part S x1 x2 = (F_K_number (sD_drawn S) x1 x2) from by rw [F_D_part]] at hq; exact hq)

def F_D_letter (S : SD) (x1 : Int32) : Int32 :=
  (F_K_sign (sD_drawn S) x1)
set_option maxRecDepth 100000 in
set_option maxHeartbeats 4000000 in
theorem c_D_letter (G : zG) (l : Launch) (a : Nat → Nat) (S : SD) (x1 : Int32)  : zM G l y_D_letter b_D_letter 2 (some .int) (zR 1 21) [.ref (a 0), .int x1] (wD G a S) (fun r1 w1 => r1 = some (.int (F_D_letter S x1)) ∧ w1 = wD G a S) := by
  generalize hPost : (fun (r1 : Option Value) (w1 : va_W) => r1 = some (.int (F_D_letter S x1)) ∧ w1 = wD G a S) = Post
  have hq : Post (some (.int (F_D_letter S x1))) (wD G a S) := by rw [← hPost]; exact ⟨rfl, rfl⟩
  clear hPost
  refine zM_of (by decide) (Nat.le_of_ble_eq_true rfl) ?_
  intro p e s m args below meth c C hlk hr hin
  refine z_aload_n C 1 d_D_letter_0 rfl rfl ?_
  refine z_get C kf_D_12 0 (v := .ref (a 1)) 4 d_D_letter_1 rfl rfl rfl ?_
  refine z_iload_n C 5 d_D_letter_4 rfl rfl ?_
  refine z_go_drawn_ro C (z_V C kc_D_62 (c_K_sign G l (fun i => a (i + 1)) (sD_drawn S) x1) (st := []) 0 0 rfl rfl rfl rfl (Nat.le_of_ble_eq_true rfl) ⟨⟨Nat.le_of_ble_eq_true rfl, Nat.le_of_ble_eq_true rfl⟩, Nat.le_of_ble_eq_true rfl, Nat.le_of_ble_eq_true rfl⟩ d_D_letter_5) [.int (F_K_sign (sD_drawn S) x1)] 8 rfl rfl ?_
  exact z_iret C hlk hr d_D_letter_8 (by rw [show F_D_letter S x1 = (F_K_sign (sD_drawn S) x1) from by rw [F_D_letter]] at hq; exact hq)

def F_D_majority (S : SD) (x1 : Int32) : Int32 :=
  (F_K_winner (sD_drawn S) x1)
set_option maxRecDepth 100000 in
set_option maxHeartbeats 4000000 in
theorem c_D_majority (G : zG) (l : Launch) (a : Nat → Nat) (S : SD) (x1 : Int32)  : zM G l y_D_majority b_D_majority 2 (some .int) (zR 4 92) [.ref (a 0), .int x1] (wD G a S) (fun r1 w1 => r1 = some (.int (F_D_majority S x1)) ∧ w1 = wD G a S) := by
  generalize hPost : (fun (r1 : Option Value) (w1 : va_W) => r1 = some (.int (F_D_majority S x1)) ∧ w1 = wD G a S) = Post
  have hq : Post (some (.int (F_D_majority S x1))) (wD G a S) := by rw [← hPost]; exact ⟨rfl, rfl⟩
  clear hPost
  refine zM_of (by decide) (Nat.le_of_ble_eq_true rfl) ?_
  intro p e s m args below meth c C hlk hr hin
  refine z_aload_n C 1 d_D_majority_0 rfl rfl ?_
  refine z_get C kf_D_12 0 (v := .ref (a 1)) 4 d_D_majority_1 rfl rfl rfl ?_
  refine z_iload_n C 5 d_D_majority_4 rfl rfl ?_
  refine z_go_drawn_ro C (z_V C kc_D_66 (c_K_winner G l (fun i => a (i + 1)) (sD_drawn S) x1) (st := []) 0 0 rfl rfl rfl rfl (Nat.le_of_ble_eq_true rfl) ⟨⟨Nat.le_of_ble_eq_true rfl, Nat.le_of_ble_eq_true rfl⟩, Nat.le_of_ble_eq_true rfl, Nat.le_of_ble_eq_true rfl⟩ d_D_majority_5) [.int (F_K_winner (sD_drawn S) x1)] 8 rfl rfl ?_
  exact z_iret C hlk hr d_D_majority_8 (by rw [show F_D_majority S x1 = (F_K_winner (sD_drawn S) x1) from by rw [F_D_majority]] at hq; exact hq)

def F_D_ends (S : SD) (x1 : Int32) : Int32 :=
  if (F_K_isPattern (sD_drawn S) x1) = 0 then
    0
  else
    if 1500 < (F_K_lastDay (sD_drawn S) x1) then
      0
    else
      1
set_option maxRecDepth 100000 in
set_option maxHeartbeats 4000000 in
theorem c_D_ends (G : zG) (l : Launch) (a : Nat → Nat) (S : SD) (x1 : Int32)  : zM G l y_D_ends b_D_ends 2 (some .boolean) (zR 3 64) [.ref (a 0), .int x1] (wD G a S) (fun r1 w1 => r1 = some (.int (F_D_ends S x1)) ∧ w1 = wD G a S) := by
  generalize hPost : (fun (r1 : Option Value) (w1 : va_W) => r1 = some (.int (F_D_ends S x1)) ∧ w1 = wD G a S) = Post
  have hq : Post (some (.int (F_D_ends S x1))) (wD G a S) := by rw [← hPost]; exact ⟨rfl, rfl⟩
  clear hPost
  refine zM_of (by decide) (Nat.le_of_ble_eq_true rfl) ?_
  intro p e s m args below meth c C hlk hr hin
  refine z_aload_n C 1 d_D_ends_0 rfl rfl ?_
  refine z_get C kf_D_12 0 (v := .ref (a 1)) 4 d_D_ends_1 rfl rfl rfl ?_
  refine z_iload_n C 5 d_D_ends_4 rfl rfl ?_
  refine z_go_drawn_ro C (z_V C kc_D_69 (c_K_isPattern G l (fun i => a (i + 1)) (sD_drawn S) x1) (st := []) 0 0 rfl rfl rfl rfl (Nat.le_of_ble_eq_true rfl) ⟨⟨Nat.le_of_ble_eq_true rfl, Nat.le_of_ble_eq_true rfl⟩, Nat.le_of_ble_eq_true rfl, Nat.le_of_ble_eq_true rfl⟩ d_D_ends_5) [.int (F_K_isPattern (sD_drawn S) x1)] 8 rfl rfl ?_
  refine z_if_eq C 29 11 d_D_ends_8 (by decide) rfl (fun c_8 => ?_) (fun c_8 => ?_)
  · refine z_iconst C 0 30 d_D_ends_29 rfl (by decide) ?_
    exact z_zret C hlk rfl hr d_D_ends_30 (by rw [show F_D_ends S x1 = 0 from by rw [F_D_ends, if_pos c_8]] at hq; exact hq)
  · refine z_aload_n C 12 d_D_ends_11 rfl rfl ?_
    refine z_get C kf_D_12 0 (v := .ref (a 1)) 15 d_D_ends_12 rfl rfl rfl ?_
    refine z_iload_n C 16 d_D_ends_15 rfl rfl ?_
    refine z_go_drawn_ro C (z_V C kc_D_73 (c_K_lastDay G l (fun i => a (i + 1)) (sD_drawn S) x1) (st := []) 0 0 rfl rfl rfl rfl (Nat.le_of_ble_eq_true rfl) ⟨⟨Nat.le_of_ble_eq_true rfl, Nat.le_of_ble_eq_true rfl⟩, Nat.le_of_ble_eq_true rfl, Nat.le_of_ble_eq_true rfl⟩ d_D_ends_16) [.int (F_K_lastDay (sD_drawn S) x1)] 19 rfl rfl ?_
    refine z_sipush C 1500 22 d_D_ends_19 rfl (by decide) ?_
    refine z_icmp_gt C 29 25 d_D_ends_22 (by decide) rfl (fun c_22 => ?_) (fun c_22 => ?_)
    · refine z_iconst C 0 30 d_D_ends_29 rfl (by decide) ?_
      exact z_zret C hlk rfl hr d_D_ends_30 (by rw [show F_D_ends S x1 = 0 from by rw [F_D_ends, if_neg c_8, if_pos c_22]] at hq; exact hq)
    · refine z_iconst C 1 26 d_D_ends_25 rfl (by decide) ?_
      refine z_goto C 30 d_D_ends_26 (by decide) ?_
      exact z_zret C hlk rfl hr d_D_ends_30 (by rw [show F_D_ends S x1 = 1 from by rw [F_D_ends, if_neg c_8, if_neg c_22]] at hq; exact hq)

def F_D_draw (S : SD) (x1 : Int32) (x2 : Int32) : Int32 × SD :=
  if (F_D_canBeDrawn x1 x2) = 0 then
    ((-1), S)
  else
    ((F_K_count (F_K_fill (sD_drawn S) (sD_seed S) x1 x2)), (uD_leftParts (uD_together (uD_needed (uD_drawn S (F_K_fill (sD_drawn S) (sD_seed S) x1 x2)) (F_R_clear (sD_needed S))) (F_R_clear (sD_together S))) (F_K_allParts (F_K_fill (sD_drawn S) (sD_seed S) x1 x2))))
set_option maxRecDepth 100000 in
set_option maxHeartbeats 4000000 in
theorem c_D_draw (G : zG) (l : Launch) (a : Nat → Nat) (S : SD) (x1 : Int32) (x2 : Int32)  : zM G l y_D_draw b_D_draw 3 (some .int) (zR 6 139) [.ref (a 0), .int x1, .int x2] (wD G a S) (fun r1 w1 => r1 = some (.int (F_D_draw S x1 x2).1) ∧ w1 = wD G a (F_D_draw S x1 x2).2) := by
  generalize hPost : (fun (r1 : Option Value) (w1 : va_W) => r1 = some (.int (F_D_draw S x1 x2).1) ∧ w1 = wD G a (F_D_draw S x1 x2).2) = Post
  have hq : Post (some (.int (F_D_draw S x1 x2).1)) (wD G a (F_D_draw S x1 x2).2) := by rw [← hPost]; exact ⟨rfl, rfl⟩
  clear hPost
  refine zM_of (by decide) (Nat.le_of_ble_eq_true rfl) ?_
  intro p e s m args below meth c C hlk hr hin
  refine z_iload_n C 1 d_D_draw_0 rfl rfl ?_
  refine z_iload_n C 2 d_D_draw_1 rfl rfl ?_
  refine z_go0 C (z_S C kc_D_40 (c_D_canBeDrawn G l x1 x2) (st := []) rfl rfl (Nat.le_of_ble_eq_true rfl) ⟨⟨Nat.le_of_ble_eq_true rfl, Nat.le_of_ble_eq_true rfl⟩, Nat.le_of_ble_eq_true rfl, Nat.le_of_ble_eq_true rfl⟩ d_D_draw_2) [0, 1, 2, 3, 4, 5, 6, 7, 8, 9, 10, 11, 12, 13, 14, 15, 16] [.int (F_D_canBeDrawn x1 x2)] 5 rfl rfl rfl rfl ?_
  refine z_if_ne C 10 8 d_D_draw_5 (by decide) rfl (fun c_5 => ?_) (fun c_5 => ?_)
  · refine z_aload_n C 11 d_D_draw_10 rfl rfl ?_
    refine z_get C kf_D_12 0 (v := .ref (a 1)) 14 d_D_draw_11 rfl rfl rfl ?_
    refine z_aload_n C 15 d_D_draw_14 rfl rfl ?_
    refine z_get C kf_D_36 0 (v := .long (sD_seed S)) 18 d_D_draw_15 rfl rfl rfl ?_
    refine z_iload_n C 19 d_D_draw_18 rfl rfl ?_
    refine z_iload_n C 20 d_D_draw_19 rfl rfl ?_
    refine z_go_drawn C (z_V C kc_D_44 (c_K_fill G l (fun i => a (i + 1)) (sD_drawn S) (sD_seed S) x1 x2) (st := []) 0 0 rfl rfl rfl rfl (Nat.le_of_ble_eq_true rfl) ⟨⟨Nat.le_of_ble_eq_true rfl, Nat.le_of_ble_eq_true rfl⟩, Nat.le_of_ble_eq_true rfl, Nat.le_of_ble_eq_true rfl⟩ d_D_draw_20) [] 23 rfl rfl ?_
    refine z_aload_n C 24 d_D_draw_23 rfl rfl ?_
    refine z_get C kf_D_25 0 (v := .ref (a 13)) 27 d_D_draw_24 rfl rfl rfl ?_
    refine z_go_needed C (z_V C kc_D_48 (c_R_clear G l (fun i => a (i + 13)) (sD_needed S)) (st := []) 0 1 rfl rfl rfl rfl (Nat.le_of_ble_eq_true rfl) ⟨⟨Nat.le_of_ble_eq_true rfl, Nat.le_of_ble_eq_true rfl⟩, Nat.le_of_ble_eq_true rfl, Nat.le_of_ble_eq_true rfl⟩ d_D_draw_27) [] 30 rfl rfl ?_
    refine z_aload_n C 31 d_D_draw_30 rfl rfl ?_
    refine z_get C kf_D_29 0 (v := .ref (a 15)) 34 d_D_draw_31 rfl rfl rfl ?_
    refine z_go_together C (z_V C kc_D_48 (c_R_clear G l (fun i => a (i + 15)) (sD_together S)) (st := []) 0 1 rfl rfl rfl rfl (Nat.le_of_ble_eq_true rfl) ⟨⟨Nat.le_of_ble_eq_true rfl, Nat.le_of_ble_eq_true rfl⟩, Nat.le_of_ble_eq_true rfl, Nat.le_of_ble_eq_true rfl⟩ d_D_draw_34) [] 37 rfl rfl ?_
    refine z_aload_n C 38 d_D_draw_37 rfl rfl ?_
    refine z_aload_n C 39 d_D_draw_38 rfl rfl ?_
    refine z_get C kf_D_12 0 (v := .ref (a 1)) 42 d_D_draw_39 rfl rfl rfl ?_
    refine z_go_drawn_ro C (z_V C kc_D_51 (c_K_allParts G l (fun i => a (i + 1)) (F_K_fill (sD_drawn S) (sD_seed S) x1 x2)) (st := [.ref (a 0)]) 0 0 rfl rfl rfl rfl (Nat.le_of_ble_eq_true rfl) ⟨⟨Nat.le_of_ble_eq_true rfl, Nat.le_of_ble_eq_true rfl⟩, Nat.le_of_ble_eq_true rfl, Nat.le_of_ble_eq_true rfl⟩ d_D_draw_42) [.int (F_K_allParts (F_K_fill (sD_drawn S) (sD_seed S) x1 x2)), .ref (a 0)] 45 rfl rfl ?_
    refine z_put C kf_D_32 kp_D 0 (wD G a (uD_leftParts (uD_together (uD_needed (uD_drawn S (F_K_fill (sD_drawn S) (sD_seed S) x1 x2)) (F_R_clear (sD_needed S))) (F_R_clear (sD_together S))) (F_K_allParts (F_K_fill (sD_drawn S) (sD_seed S) x1 x2)))) 48 d_D_draw_45 rfl rfl rfl (znr_i _) (zft_i _) (Nat.le_of_ble_eq_true rfl) (wD_put_leftParts G a (uD_together (uD_needed (uD_drawn S (F_K_fill (sD_drawn S) (sD_seed S) x1 x2)) (F_R_clear (sD_needed S))) (F_R_clear (sD_together S))) (F_K_allParts (F_K_fill (sD_drawn S) (sD_seed S) x1 x2))) ?_
    refine z_aload_n C 49 d_D_draw_48 rfl rfl ?_
    refine z_get C kf_D_12 0 (v := .ref (a 1)) 52 d_D_draw_49 rfl rfl rfl ?_
    refine z_go_drawn_ro C (z_V C kc_D_55 (c_K_count G l (fun i => a (i + 1)) (F_K_fill (sD_drawn S) (sD_seed S) x1 x2)) (st := []) 0 0 rfl rfl rfl rfl (Nat.le_of_ble_eq_true rfl) ⟨⟨Nat.le_of_ble_eq_true rfl, Nat.le_of_ble_eq_true rfl⟩, Nat.le_of_ble_eq_true rfl, Nat.le_of_ble_eq_true rfl⟩ d_D_draw_52) [.int (F_K_count (F_K_fill (sD_drawn S) (sD_seed S) x1 x2))] 55 rfl rfl ?_
    exact z_iret C hlk hr d_D_draw_55 (by rw [show F_D_draw S x1 x2 = ((F_K_count (F_K_fill (sD_drawn S) (sD_seed S) x1 x2)), (uD_leftParts (uD_together (uD_needed (uD_drawn S (F_K_fill (sD_drawn S) (sD_seed S) x1 x2)) (F_R_clear (sD_needed S))) (F_R_clear (sD_together S))) (F_K_allParts (F_K_fill (sD_drawn S) (sD_seed S) x1 x2)))) from by rw [F_D_draw, if_neg c_5]] at hq; exact hq)
  · refine z_iconst C (-1) 9 d_D_draw_8 rfl (by decide) ?_
    exact z_iret C hlk hr d_D_draw_9 (by rw [show F_D_draw S x1 x2 = ((-1), S) from by rw [F_D_draw, if_pos c_5]] at hq; exact hq)

def F_D_verdict (S : SD) (x1 : Int32) (x2 : Int32) : SD :=
  if (F_K_count (sD_drawn S)) = 0 then
    S
  else
    if x2 = 0 then
      (uD_together S (F_R_add (sD_together S) (x1 &&& (F_K_allParts (sD_drawn S)))))
    else
      (uD_needed S (F_R_add (sD_needed S) (x1 &&& (F_K_allParts (sD_drawn S)))))
set_option maxRecDepth 100000 in
set_option maxHeartbeats 4000000 in
theorem c_D_verdict (G : zG) (l : Launch) (a : Nat → Nat) (S : SD) (x1 : Int32) (x2 : Int32)  : zM G l y_D_verdict b_D_verdict 4 (none) (zR 1 21) [.ref (a 0), .int x1, .int x2] (wD G a S) (fun r1 w1 => r1 = none ∧ w1 = wD G a (F_D_verdict S x1 x2)) := by
  generalize hPost : (fun (r1 : Option Value) (w1 : va_W) => r1 = none ∧ w1 = wD G a (F_D_verdict S x1 x2)) = Post
  have hq : Post (none) (wD G a (F_D_verdict S x1 x2)) := by rw [← hPost]; exact ⟨rfl, rfl⟩
  clear hPost
  refine zM_of (by decide) (Nat.le_of_ble_eq_true rfl) ?_
  intro p e s m args below meth c C hlk hr hin
  refine z_aload_n C 1 d_D_verdict_0 rfl rfl ?_
  refine z_get C kf_D_12 0 (v := .ref (a 1)) 4 d_D_verdict_1 rfl rfl rfl ?_
  refine z_go_drawn_ro C (z_V C kc_D_55 (c_K_count G l (fun i => a (i + 1)) (sD_drawn S)) (st := []) 0 0 rfl rfl rfl rfl (Nat.le_of_ble_eq_true rfl) ⟨⟨Nat.le_of_ble_eq_true rfl, Nat.le_of_ble_eq_true rfl⟩, Nat.le_of_ble_eq_true rfl, Nat.le_of_ble_eq_true rfl⟩ d_D_verdict_4) [.int (F_K_count (sD_drawn S))] 7 rfl rfl ?_
  refine z_if_ne C 11 10 d_D_verdict_7 (by decide) rfl (fun c_7 => ?_) (fun c_7 => ?_)
  · refine z_iload_n C 12 d_D_verdict_11 rfl rfl ?_
    refine z_aload_n C 13 d_D_verdict_12 rfl rfl ?_
    refine z_get C kf_D_12 0 (v := .ref (a 1)) 16 d_D_verdict_13 rfl rfl rfl ?_
    refine z_go_drawn_ro C (z_V C kc_D_51 (c_K_allParts G l (fun i => a (i + 1)) (sD_drawn S)) (st := [.int x1]) 0 0 rfl rfl rfl rfl (Nat.le_of_ble_eq_true rfl) ⟨⟨Nat.le_of_ble_eq_true rfl, Nat.le_of_ble_eq_true rfl⟩, Nat.le_of_ble_eq_true rfl, Nat.le_of_ble_eq_true rfl⟩ d_D_verdict_16) [.int (F_K_allParts (sD_drawn S)), .int x1] 19 rfl rfl ?_
    refine z_iand C 20 d_D_verdict_19 rfl ?_
    refine z_istore_n C [(3, .int (x1 &&& (F_K_allParts (sD_drawn S)))), (0, .ref (a 0)), (1, .int x1), (2, .int x2)] 21 d_D_verdict_20 rfl (by decide) rfl ?_
    refine z_iload_n C 22 d_D_verdict_21 rfl rfl ?_
    refine z_if_eq C 36 25 d_D_verdict_22 (by decide) rfl (fun c_22 => ?_) (fun c_22 => ?_)
    · refine z_aload_n C 37 d_D_verdict_36 rfl rfl ?_
      refine z_get C kf_D_29 0 (v := .ref (a 15)) 40 d_D_verdict_37 rfl rfl rfl ?_
      refine z_iload_n C 41 d_D_verdict_40 rfl rfl ?_
      refine z_go_together C (z_V C kc_D_79 (c_R_add G l (fun i => a (i + 15)) (sD_together S) (x1 &&& (F_K_allParts (sD_drawn S)))) (st := []) 0 1 rfl rfl rfl rfl (Nat.le_of_ble_eq_true rfl) ⟨⟨Nat.le_of_ble_eq_true rfl, Nat.le_of_ble_eq_true rfl⟩, Nat.le_of_ble_eq_true rfl, Nat.le_of_ble_eq_true rfl⟩ d_D_verdict_41) [] 44 rfl rfl ?_
      exact z_vret C hlk hr d_D_verdict_44 (by rw [show F_D_verdict S x1 x2 = (uD_together S (F_R_add (sD_together S) (x1 &&& (F_K_allParts (sD_drawn S))))) from by rw [F_D_verdict, if_neg c_7, if_pos c_22]] at hq; exact hq)
    · refine z_aload_n C 26 d_D_verdict_25 rfl rfl ?_
      refine z_get C kf_D_25 0 (v := .ref (a 13)) 29 d_D_verdict_26 rfl rfl rfl ?_
      refine z_iload_n C 30 d_D_verdict_29 rfl rfl ?_
      refine z_go_needed C (z_V C kc_D_79 (c_R_add G l (fun i => a (i + 13)) (sD_needed S) (x1 &&& (F_K_allParts (sD_drawn S)))) (st := []) 0 1 rfl rfl rfl rfl (Nat.le_of_ble_eq_true rfl) ⟨⟨Nat.le_of_ble_eq_true rfl, Nat.le_of_ble_eq_true rfl⟩, Nat.le_of_ble_eq_true rfl, Nat.le_of_ble_eq_true rfl⟩ d_D_verdict_30) [] 33 rfl rfl ?_
      refine z_goto C 44 d_D_verdict_33 (by decide) ?_
      exact z_vret C hlk hr d_D_verdict_44 (by rw [show F_D_verdict S x1 x2 = (uD_needed S (F_R_add (sD_needed S) (x1 &&& (F_K_allParts (sD_drawn S))))) from by rw [F_D_verdict, if_neg c_7, if_neg c_22]] at hq; exact hq)
  · exact z_vret C hlk hr d_D_verdict_10 (by rw [show F_D_verdict S x1 x2 = S from by rw [F_D_verdict, if_pos c_7]] at hq; exact hq)

def L_D_planted_16 : Nat → SD → Int32 → Int32 → Int32 → Int32
  | 0, S, v1, v2, v3 => 0
  | n + 1, S, v1, v2, v3 =>
    if (F_K_count (sD_drawn S)) ≤ v3 then
      v2
    else
      if (F_K_shows (sD_drawn S) v3 v1) = 0 then
        (L_D_planted_16 n S v1 v2 (v3 + 1))
      else
        (L_D_planted_16 n S v1 (v2 + 1) (v3 + 1))
set_option maxRecDepth 100000 in
set_option maxHeartbeats 4000000 in
theorem l_D_planted_16 (G : zG) (l : Launch) (a : Nat → Nat) {p : Program} {e : Env} {s : State} {m : MethodId} {args : Array Value} {below : List Frame} {meth : Method} {c : Code} {w0 : va_W} {Post : Option Value → va_W → Prop} (C : zC p s m args meth c b_D_planted 4 N_D G (va_A w0 s.heap.size)) (hlk : meth.locks = false) (hr : meth.sig.returnType = some .int) :
    ∀ (n : Nat) (S : SD) (v1 : Int32) (v2 : Int32) (v3 : Int32), (Int32.toInt (F_K_count (sD_drawn S)) - Int32.toInt v3).toNat < n → Post (some (.int (L_D_planted_16 n S v1 v2 v3))) (wD G a S) → zV p l e (zR 5 114) s m args below meth c 4 G (va_A w0 s.heap.size) (MQ below (zQ G w0 s.heap.size Post) args s 0 0 (va_A w0 s.heap.size)) 0 0 (wD G a S) 16 [(0, .ref (a 0)), (1, .int v1), (2, .int v2), (3, .int v3)] [] := by
  intro n
  induction n with
  | zero => intro S v1 v2 v3 h; exact absurd h (Nat.not_lt_zero _)
  | succ n ih =>
    intro S v1 v2 v3 hmu hq
    refine z_iload_n C 17 d_D_planted_16 rfl rfl ?_
    refine z_aload_n C 18 d_D_planted_17 rfl rfl ?_
    refine z_get C kf_D_12 0 (v := .ref (a 1)) 21 d_D_planted_18 rfl rfl rfl ?_
    refine z_go_drawn_ro C (z_V C kc_D_55 (c_K_count G l (fun i => a (i + 1)) (sD_drawn S)) (st := [.int v3]) 0 0 rfl rfl rfl rfl (Nat.le_of_ble_eq_true rfl) ⟨⟨Nat.le_of_ble_eq_true rfl, Nat.le_of_ble_eq_true rfl⟩, Nat.le_of_ble_eq_true rfl, Nat.le_of_ble_eq_true rfl⟩ d_D_planted_21) [.int (F_K_count (sD_drawn S)), .int v3] 24 rfl rfl ?_
    refine z_icmp_ge C 48 27 d_D_planted_24 (by decide) rfl (fun c_24 => ?_) (fun c_24 => ?_)
    · refine z_iload_n C 49 d_D_planted_48 rfl rfl ?_
      exact z_iret C hlk hr d_D_planted_49 (by rw [show L_D_planted_16 (n + 1) S v1 v2 v3 = v2 from by rw [L_D_planted_16, if_pos c_24]] at hq; exact hq)
    · refine z_aload_n C 28 d_D_planted_27 rfl rfl ?_
      refine z_get C kf_D_12 0 (v := .ref (a 1)) 31 d_D_planted_28 rfl rfl rfl ?_
      refine z_iload_n C 32 d_D_planted_31 rfl rfl ?_
      refine z_iload_n C 33 d_D_planted_32 rfl rfl ?_
      refine z_go_drawn_ro C (z_V C kc_D_76 (c_K_shows G l (fun i => a (i + 1)) (sD_drawn S) v3 v1) (st := []) 0 0 rfl rfl rfl rfl (Nat.le_of_ble_eq_true rfl) ⟨⟨Nat.le_of_ble_eq_true rfl, Nat.le_of_ble_eq_true rfl⟩, Nat.le_of_ble_eq_true rfl, Nat.le_of_ble_eq_true rfl⟩ d_D_planted_33) [.int (F_K_shows (sD_drawn S) v3 v1)] 36 rfl rfl ?_
      refine z_if_eq C 42 39 d_D_planted_36 (by decide) rfl (fun c_36 => ?_) (fun c_36 => ?_)
      · refine z_iinc C (v3 + 1) [(3, .int (v3 + 1)), (0, .ref (a 0)), (1, .int v1), (2, .int v2)] 45 d_D_planted_42 rfl (by decide) rfl rfl rfl ?_
        refine z_goto C 16 d_D_planted_45 (by decide) ?_
        refine z_lvs [1, 2, 3, 0] [(0, .ref (a 0)), (1, .int v1), (2, .int v2), (3, .int (v3 + 1))] rfl ?_
        exact ih S v1 v2 (v3 + 1) (zdec c_24 hmu) (by rw [show L_D_planted_16 (n + 1) S v1 v2 v3 = (L_D_planted_16 n S v1 v2 (v3 + 1)) from by rw [L_D_planted_16, if_neg c_24, if_pos c_36]] at hq; exact hq)
      · refine z_iinc C (v2 + 1) [(2, .int (v2 + 1)), (0, .ref (a 0)), (1, .int v1), (3, .int v3)] 42 d_D_planted_39 rfl (by decide) rfl rfl rfl ?_
        refine z_iinc C (v3 + 1) [(3, .int (v3 + 1)), (2, .int (v2 + 1)), (0, .ref (a 0)), (1, .int v1)] 45 d_D_planted_42 rfl (by decide) rfl rfl rfl ?_
        refine z_goto C 16 d_D_planted_45 (by decide) ?_
        refine z_lvs [2, 3, 1, 0] [(0, .ref (a 0)), (1, .int v1), (2, .int (v2 + 1)), (3, .int (v3 + 1))] rfl ?_
        exact ih S v1 (v2 + 1) (v3 + 1) (zdec c_24 hmu) (by rw [show L_D_planted_16 (n + 1) S v1 v2 v3 = (L_D_planted_16 n S v1 (v2 + 1) (v3 + 1)) from by rw [L_D_planted_16, if_neg c_24, if_neg c_36]] at hq; exact hq)
def F_D_planted (S : SD) (x1 : Int32) : Int32 :=
  if x1 < 0 then
    (-1)
  else
    if x1 < 8 then
      (L_D_planted_16 ((Int32.toInt (F_K_count (sD_drawn S)) - Int32.toInt 0).toNat + 1) S x1 0 0)
    else
      (-1)
set_option maxRecDepth 100000 in
set_option maxHeartbeats 4000000 in
theorem c_D_planted (G : zG) (l : Launch) (a : Nat → Nat) (S : SD) (x1 : Int32)  : zM G l y_D_planted b_D_planted 4 (some .int) (zR 5 114) [.ref (a 0), .int x1] (wD G a S) (fun r1 w1 => r1 = some (.int (F_D_planted S x1)) ∧ w1 = wD G a S) := by
  generalize hPost : (fun (r1 : Option Value) (w1 : va_W) => r1 = some (.int (F_D_planted S x1)) ∧ w1 = wD G a S) = Post
  have hq : Post (some (.int (F_D_planted S x1))) (wD G a S) := by rw [← hPost]; exact ⟨rfl, rfl⟩
  clear hPost
  refine zM_of (by decide) (Nat.le_of_ble_eq_true rfl) ?_
  intro p e s m args below meth c C hlk hr hin
  refine z_iload_n C 1 d_D_planted_0 rfl rfl ?_
  refine z_if_lt C 10 4 d_D_planted_1 (by decide) rfl (fun c_1 => ?_) (fun c_1 => ?_)
  · refine z_iconst C (-1) 11 d_D_planted_10 rfl (by decide) ?_
    exact z_iret C hlk hr d_D_planted_11 (by rw [show F_D_planted S x1 = (-1) from by rw [F_D_planted, if_pos c_1]] at hq; exact hq)
  · refine z_iload_n C 5 d_D_planted_4 rfl rfl ?_
    refine z_bipush C 8 7 d_D_planted_5 rfl (by decide) ?_
    refine z_icmp_lt C 12 10 d_D_planted_7 (by decide) rfl (fun c_7 => ?_) (fun c_7 => ?_)
    · refine z_iconst C 0 13 d_D_planted_12 rfl (by decide) ?_
      refine z_istore_n C [(2, .int 0), (0, .ref (a 0)), (1, .int x1)] 14 d_D_planted_13 rfl (by decide) rfl ?_
      refine z_iconst C 0 15 d_D_planted_14 rfl (by decide) ?_
      refine z_istore_n C [(3, .int 0), (2, .int 0), (0, .ref (a 0)), (1, .int x1)] 16 d_D_planted_15 rfl (by decide) rfl ?_
      refine z_lvs [2, 3, 1, 0] [(0, .ref (a 0)), (1, .int x1), (2, .int 0), (3, .int 0)] rfl ?_
      exact l_D_planted_16 G l a C hlk hr _ S x1 0 0 (Nat.lt_succ_self _) (by rw [show F_D_planted S x1 = (L_D_planted_16 ((Int32.toInt (F_K_count (sD_drawn S)) - Int32.toInt 0).toNat + 1) S x1 0 0) from by rw [F_D_planted, if_neg c_1, if_pos c_7]] at hq; exact hq)
    · refine z_iconst C (-1) 11 d_D_planted_10 rfl (by decide) ?_
      exact z_iret C hlk hr d_D_planted_11 (by rw [show F_D_planted S x1 = (-1) from by rw [F_D_planted, if_neg c_1, if_neg c_7]] at hq; exact hq)

def L_D_left_4 : Nat → SD → Int32 → Int32 → Int32 → Int32
  | 0, S, v1, v2, v3 => 0
  | n + 1, S, v1, v2, v3 =>
    if (F_K_count (sD_drawn S)) ≤ v3 then
      (-1)
    else
      if (F_D_isIn v3 (sD_leftParts S)) = 0 then
        (L_D_left_4 n S v1 v2 (v3 + 1))
      else
        if v2 = v1 then
          v3
        else
          (L_D_left_4 n S v1 (v2 + 1) (v3 + 1))
set_option maxRecDepth 100000 in
set_option maxHeartbeats 4000000 in
theorem l_D_left_4 (G : zG) (l : Launch) (a : Nat → Nat) {p : Program} {e : Env} {s : State} {m : MethodId} {args : Array Value} {below : List Frame} {meth : Method} {c : Code} {w0 : va_W} {Post : Option Value → va_W → Prop} (C : zC p s m args meth c b_D_left 4 N_D G (va_A w0 s.heap.size)) (hlk : meth.locks = false) (hr : meth.sig.returnType = some .int) :
    ∀ (n : Nat) (S : SD) (v1 : Int32) (v2 : Int32) (v3 : Int32), (Int32.toInt (F_K_count (sD_drawn S)) - Int32.toInt v3).toNat < n → Post (some (.int (L_D_left_4 n S v1 v2 v3))) (wD G a S) → zV p l e (zR 1 21) s m args below meth c 4 G (va_A w0 s.heap.size) (MQ below (zQ G w0 s.heap.size Post) args s 0 0 (va_A w0 s.heap.size)) 0 0 (wD G a S) 4 [(0, .ref (a 0)), (1, .int v1), (2, .int v2), (3, .int v3)] [] := by
  intro n
  induction n with
  | zero => intro S v1 v2 v3 h; exact absurd h (Nat.not_lt_zero _)
  | succ n ih =>
    intro S v1 v2 v3 hmu hq
    refine z_iload_n C 5 d_D_left_4 rfl rfl ?_
    refine z_aload_n C 6 d_D_left_5 rfl rfl ?_
    refine z_get C kf_D_12 0 (v := .ref (a 1)) 9 d_D_left_6 rfl rfl rfl ?_
    refine z_go_drawn_ro C (z_V C kc_D_55 (c_K_count G l (fun i => a (i + 1)) (sD_drawn S)) (st := [.int v3]) 0 0 rfl rfl rfl rfl (Nat.le_of_ble_eq_true rfl) ⟨⟨Nat.le_of_ble_eq_true rfl, Nat.le_of_ble_eq_true rfl⟩, Nat.le_of_ble_eq_true rfl, Nat.le_of_ble_eq_true rfl⟩ d_D_left_9) [.int (F_K_count (sD_drawn S)), .int v3] 12 rfl rfl ?_
    refine z_icmp_ge C 42 15 d_D_left_12 (by decide) rfl (fun c_12 => ?_) (fun c_12 => ?_)
    · refine z_iconst C (-1) 43 d_D_left_42 rfl (by decide) ?_
      exact z_iret C hlk hr d_D_left_43 (by rw [show L_D_left_4 (n + 1) S v1 v2 v3 = (-1) from by rw [L_D_left_4, if_pos c_12]] at hq; exact hq)
    · refine z_iload_n C 16 d_D_left_15 rfl rfl ?_
      refine z_aload_n C 17 d_D_left_16 rfl rfl ?_
      refine z_get C kf_D_32 0 (v := .int (sD_leftParts S)) 20 d_D_left_17 rfl rfl rfl ?_
      refine z_go0 C (z_S C kc_D_91 (c_D_isIn G l v3 (sD_leftParts S)) (st := []) rfl rfl (Nat.le_of_ble_eq_true rfl) ⟨⟨Nat.le_of_ble_eq_true rfl, Nat.le_of_ble_eq_true rfl⟩, Nat.le_of_ble_eq_true rfl, Nat.le_of_ble_eq_true rfl⟩ d_D_left_20) [0, 1, 2, 3, 4, 5, 6, 7, 8, 9, 10, 11, 12, 13, 14, 15, 16] [.int (F_D_isIn v3 (sD_leftParts S))] 23 rfl rfl rfl rfl ?_
      refine z_if_eq C 36 26 d_D_left_23 (by decide) rfl (fun c_23 => ?_) (fun c_23 => ?_)
      · refine z_iinc C (v3 + 1) [(3, .int (v3 + 1)), (0, .ref (a 0)), (1, .int v1), (2, .int v2)] 39 d_D_left_36 rfl (by decide) rfl rfl rfl ?_
        refine z_goto C 4 d_D_left_39 (by decide) ?_
        refine z_lvs [1, 2, 3, 0] [(0, .ref (a 0)), (1, .int v1), (2, .int v2), (3, .int (v3 + 1))] rfl ?_
        exact ih S v1 v2 (v3 + 1) (zdec c_12 hmu) (by rw [show L_D_left_4 (n + 1) S v1 v2 v3 = (L_D_left_4 n S v1 v2 (v3 + 1)) from by rw [L_D_left_4, if_neg c_12, if_pos c_23]] at hq; exact hq)
      · refine z_iload_n C 27 d_D_left_26 rfl rfl ?_
        refine z_iload_n C 28 d_D_left_27 rfl rfl ?_
        refine z_icmp_ne C 33 31 d_D_left_28 (by decide) rfl (fun c_28 => ?_) (fun c_28 => ?_)
        · refine z_iinc C (v2 + 1) [(2, .int (v2 + 1)), (0, .ref (a 0)), (1, .int v1), (3, .int v3)] 36 d_D_left_33 rfl (by decide) rfl rfl rfl ?_
          refine z_iinc C (v3 + 1) [(3, .int (v3 + 1)), (2, .int (v2 + 1)), (0, .ref (a 0)), (1, .int v1)] 39 d_D_left_36 rfl (by decide) rfl rfl rfl ?_
          refine z_goto C 4 d_D_left_39 (by decide) ?_
          refine z_lvs [2, 3, 1, 0] [(0, .ref (a 0)), (1, .int v1), (2, .int (v2 + 1)), (3, .int (v3 + 1))] rfl ?_
          exact ih S v1 (v2 + 1) (v3 + 1) (zdec c_12 hmu) (by rw [show L_D_left_4 (n + 1) S v1 v2 v3 = (L_D_left_4 n S v1 (v2 + 1) (v3 + 1)) from by rw [L_D_left_4, if_neg c_12, if_neg c_23, if_neg c_28]] at hq; exact hq)
        · refine z_iload_n C 32 d_D_left_31 rfl rfl ?_
          exact z_iret C hlk hr d_D_left_32 (by rw [show L_D_left_4 (n + 1) S v1 v2 v3 = v3 from by rw [L_D_left_4, if_neg c_12, if_neg c_23, if_pos c_28]] at hq; exact hq)
def F_D_left (S : SD) (x1 : Int32) : Int32 :=
  (L_D_left_4 ((Int32.toInt (F_K_count (sD_drawn S)) - Int32.toInt 0).toNat + 1) S x1 0 0)
set_option maxRecDepth 100000 in
set_option maxHeartbeats 4000000 in
theorem c_D_left (G : zG) (l : Launch) (a : Nat → Nat) (S : SD) (x1 : Int32)  : zM G l y_D_left b_D_left 4 (some .int) (zR 1 21) [.ref (a 0), .int x1] (wD G a S) (fun r1 w1 => r1 = some (.int (F_D_left S x1)) ∧ w1 = wD G a S) := by
  generalize hPost : (fun (r1 : Option Value) (w1 : va_W) => r1 = some (.int (F_D_left S x1)) ∧ w1 = wD G a S) = Post
  have hq : Post (some (.int (F_D_left S x1))) (wD G a S) := by rw [← hPost]; exact ⟨rfl, rfl⟩
  clear hPost
  refine zM_of (by decide) (Nat.le_of_ble_eq_true rfl) ?_
  intro p e s m args below meth c C hlk hr hin
  refine z_iconst C 0 1 d_D_left_0 rfl (by decide) ?_
  refine z_istore_n C [(2, .int 0), (0, .ref (a 0)), (1, .int x1)] 2 d_D_left_1 rfl (by decide) rfl ?_
  refine z_iconst C 0 3 d_D_left_2 rfl (by decide) ?_
  refine z_istore_n C [(3, .int 0), (2, .int 0), (0, .ref (a 0)), (1, .int x1)] 4 d_D_left_3 rfl (by decide) rfl ?_
  refine z_lvs [2, 3, 1, 0] [(0, .ref (a 0)), (1, .int x1), (2, .int 0), (3, .int 0)] rfl ?_
  exact l_D_left_4 G l a C hlk hr _ S x1 0 0 (Nat.lt_succ_self _) (by rw [show F_D_left S x1 = (L_D_left_4 ((Int32.toInt (F_K_count (sD_drawn S)) - Int32.toInt 0).toNat + 1) S x1 0 0) from by rw [F_D_left]] at hq; exact hq)

def L_D_minimal_15 : Nat → SD → Int32 → Int32
  | 0, S, v1 => 0
  | n + 1, S, v1 =>
    if (F_K_count (sD_drawn S)) ≤ v1 then
      1
    else
      if (F_D_isIn v1 (sD_leftParts S)) = 0 then
        (L_D_minimal_15 n S (v1 + 1))
      else
        if (F_D_staysFor S (F_D_without v1 (sD_leftParts S))) = 0 then
          (L_D_minimal_15 n S (v1 + 1))
        else
          0
set_option maxRecDepth 100000 in
set_option maxHeartbeats 4000000 in
theorem l_D_minimal_15 (G : zG) (l : Launch) (a : Nat → Nat) {p : Program} {e : Env} {s : State} {m : MethodId} {args : Array Value} {below : List Frame} {meth : Method} {c : Code} {w0 : va_W} {Post : Option Value → va_W → Prop} (C : zC p s m args meth c b_D_minimal 2 N_D G (va_A w0 s.heap.size)) (hlk : meth.locks = false) (hr : meth.sig.returnType = some .boolean) :
    ∀ (n : Nat) (S : SD) (v1 : Int32), (Int32.toInt (F_K_count (sD_drawn S)) - Int32.toInt v1).toNat < n → Post (some (.int (L_D_minimal_15 n S v1))) (wD G a S) → zV p l e (zR 2 44) s m args below meth c 2 G (va_A w0 s.heap.size) (MQ below (zQ G w0 s.heap.size Post) args s 0 0 (va_A w0 s.heap.size)) 0 0 (wD G a S) 15 [(0, .ref (a 0)), (1, .int v1)] [] := by
  intro n
  induction n with
  | zero => intro S v1 h; exact absurd h (Nat.not_lt_zero _)
  | succ n ih =>
    intro S v1 hmu hq
    refine z_iload_n C 16 d_D_minimal_15 rfl rfl ?_
    refine z_aload_n C 17 d_D_minimal_16 rfl rfl ?_
    refine z_get C kf_D_12 0 (v := .ref (a 1)) 20 d_D_minimal_17 rfl rfl rfl ?_
    refine z_go_drawn_ro C (z_V C kc_D_55 (c_K_count G l (fun i => a (i + 1)) (sD_drawn S)) (st := [.int v1]) 0 0 rfl rfl rfl rfl (Nat.le_of_ble_eq_true rfl) ⟨⟨Nat.le_of_ble_eq_true rfl, Nat.le_of_ble_eq_true rfl⟩, Nat.le_of_ble_eq_true rfl, Nat.le_of_ble_eq_true rfl⟩ d_D_minimal_20) [.int (F_K_count (sD_drawn S)), .int v1] 23 rfl rfl ?_
    refine z_icmp_ge C 60 26 d_D_minimal_23 (by decide) rfl (fun c_23 => ?_) (fun c_23 => ?_)
    · refine z_iconst C 1 61 d_D_minimal_60 rfl (by decide) ?_
      exact z_zret C hlk rfl hr d_D_minimal_61 (by rw [show L_D_minimal_15 (n + 1) S v1 = 1 from by rw [L_D_minimal_15, if_pos c_23]] at hq; exact hq)
    · refine z_iload_n C 27 d_D_minimal_26 rfl rfl ?_
      refine z_aload_n C 28 d_D_minimal_27 rfl rfl ?_
      refine z_get C kf_D_32 0 (v := .int (sD_leftParts S)) 31 d_D_minimal_28 rfl rfl rfl ?_
      refine z_go0 C (z_S C kc_D_91 (c_D_isIn G l v1 (sD_leftParts S)) (st := []) rfl rfl (Nat.le_of_ble_eq_true rfl) ⟨⟨Nat.le_of_ble_eq_true rfl, Nat.le_of_ble_eq_true rfl⟩, Nat.le_of_ble_eq_true rfl, Nat.le_of_ble_eq_true rfl⟩ d_D_minimal_31) [0, 1, 2, 3, 4, 5, 6, 7, 8, 9, 10, 11, 12, 13, 14, 15, 16] [.int (F_D_isIn v1 (sD_leftParts S))] 34 rfl rfl rfl rfl ?_
      refine z_if_eq C 54 37 d_D_minimal_34 (by decide) rfl (fun c_34 => ?_) (fun c_34 => ?_)
      · refine z_iinc C (v1 + 1) [(1, .int (v1 + 1)), (0, .ref (a 0))] 57 d_D_minimal_54 rfl (by decide) rfl rfl rfl ?_
        refine z_goto C 15 d_D_minimal_57 (by decide) ?_
        refine z_lvs [1, 0] [(0, .ref (a 0)), (1, .int (v1 + 1))] rfl ?_
        exact ih S (v1 + 1) (zdec c_23 hmu) (by rw [show L_D_minimal_15 (n + 1) S v1 = (L_D_minimal_15 n S (v1 + 1)) from by rw [L_D_minimal_15, if_neg c_23, if_pos c_34]] at hq; exact hq)
      · refine z_aload_n C 38 d_D_minimal_37 rfl rfl ?_
        refine z_iload_n C 39 d_D_minimal_38 rfl rfl ?_
        refine z_aload_n C 40 d_D_minimal_39 rfl rfl ?_
        refine z_get C kf_D_32 0 (v := .int (sD_leftParts S)) 43 d_D_minimal_40 rfl rfl rfl ?_
        refine z_go0 C (z_S C kc_D_97 (c_D_without G l v1 (sD_leftParts S)) (st := [.ref (a 0)]) rfl rfl (Nat.le_of_ble_eq_true rfl) ⟨⟨Nat.le_of_ble_eq_true rfl, Nat.le_of_ble_eq_true rfl⟩, Nat.le_of_ble_eq_true rfl, Nat.le_of_ble_eq_true rfl⟩ d_D_minimal_43) [0, 1, 2, 3, 4, 5, 6, 7, 8, 9, 10, 11, 12, 13, 14, 15, 16] [.int (F_D_without v1 (sD_leftParts S)), .ref (a 0)] 46 rfl rfl rfl rfl ?_
        refine z_goA C (z_V C kc_D_94 (c_D_staysFor G l a S (F_D_without v1 (sD_leftParts S))) (st := []) 0 2 rfl rfl rfl rfl (Nat.le_of_ble_eq_true rfl) ⟨⟨Nat.le_of_ble_eq_true rfl, Nat.le_of_ble_eq_true rfl⟩, Nat.le_of_ble_eq_true rfl, Nat.le_of_ble_eq_true rfl⟩ d_D_minimal_46) [.int (F_D_staysFor S (F_D_without v1 (sD_leftParts S)))] 49 rfl rfl ?_
        refine z_if_eq C 54 52 d_D_minimal_49 (by decide) rfl (fun c_49 => ?_) (fun c_49 => ?_)
        · refine z_iinc C (v1 + 1) [(1, .int (v1 + 1)), (0, .ref (a 0))] 57 d_D_minimal_54 rfl (by decide) rfl rfl rfl ?_
          refine z_goto C 15 d_D_minimal_57 (by decide) ?_
          refine z_lvs [1, 0] [(0, .ref (a 0)), (1, .int (v1 + 1))] rfl ?_
          exact ih S (v1 + 1) (zdec c_23 hmu) (by rw [show L_D_minimal_15 (n + 1) S v1 = (L_D_minimal_15 n S (v1 + 1)) from by rw [L_D_minimal_15, if_neg c_23, if_neg c_34, if_pos c_49]] at hq; exact hq)
        · refine z_iconst C 0 53 d_D_minimal_52 rfl (by decide) ?_
          exact z_zret C hlk rfl hr d_D_minimal_53 (by rw [show L_D_minimal_15 (n + 1) S v1 = 0 from by rw [L_D_minimal_15, if_neg c_23, if_neg c_34, if_neg c_49]] at hq; exact hq)
def F_D_minimal (S : SD)  : Int32 :=
  if (F_D_staysFor S (sD_leftParts S)) = 0 then
    0
  else
    (L_D_minimal_15 ((Int32.toInt (F_K_count (sD_drawn S)) - Int32.toInt 0).toNat + 1) S 0)
set_option maxRecDepth 100000 in
set_option maxHeartbeats 4000000 in
theorem c_D_minimal (G : zG) (l : Launch) (a : Nat → Nat) (S : SD)   : zM G l y_D_minimal b_D_minimal 2 (some .boolean) (zR 2 44) [.ref (a 0)] (wD G a S) (fun r1 w1 => r1 = some (.int (F_D_minimal S)) ∧ w1 = wD G a S) := by
  generalize hPost : (fun (r1 : Option Value) (w1 : va_W) => r1 = some (.int (F_D_minimal S)) ∧ w1 = wD G a S) = Post
  have hq : Post (some (.int (F_D_minimal S))) (wD G a S) := by rw [← hPost]; exact ⟨rfl, rfl⟩
  clear hPost
  refine zM_of (by decide) (Nat.le_of_ble_eq_true rfl) ?_
  intro p e s m args below meth c C hlk hr hin
  refine z_aload_n C 1 d_D_minimal_0 rfl rfl ?_
  refine z_aload_n C 2 d_D_minimal_1 rfl rfl ?_
  refine z_get C kf_D_32 0 (v := .int (sD_leftParts S)) 5 d_D_minimal_2 rfl rfl rfl ?_
  refine z_goA C (z_V C kc_D_94 (c_D_staysFor G l a S (sD_leftParts S)) (st := []) 0 2 rfl rfl rfl rfl (Nat.le_of_ble_eq_true rfl) ⟨⟨Nat.le_of_ble_eq_true rfl, Nat.le_of_ble_eq_true rfl⟩, Nat.le_of_ble_eq_true rfl, Nat.le_of_ble_eq_true rfl⟩ d_D_minimal_5) [.int (F_D_staysFor S (sD_leftParts S))] 8 rfl rfl ?_
  refine z_if_ne C 13 11 d_D_minimal_8 (by decide) rfl (fun c_8 => ?_) (fun c_8 => ?_)
  · refine z_iconst C 0 14 d_D_minimal_13 rfl (by decide) ?_
    refine z_istore_n C [(1, .int 0), (0, .ref (a 0))] 15 d_D_minimal_14 rfl (by decide) rfl ?_
    refine z_lvs [1, 0] [(0, .ref (a 0)), (1, .int 0)] rfl ?_
    exact l_D_minimal_15 G l a C hlk hr _ S 0 (Nat.lt_succ_self _) (by rw [show F_D_minimal S = (L_D_minimal_15 ((Int32.toInt (F_K_count (sD_drawn S)) - Int32.toInt 0).toNat + 1) S 0) from by rw [F_D_minimal, if_neg c_8]] at hq; exact hq)
  · refine z_iconst C 0 12 d_D_minimal_11 rfl (by decide) ?_
    exact z_zret C hlk rfl hr d_D_minimal_12 (by rw [show F_D_minimal S = 0 from by rw [F_D_minimal, if_pos c_8]] at hq; exact hq)

def L_D_afterOneGoing_5 : Nat → SD → Int32 → Int32 → Int32
  | 0, S, v2, v3 => 0
  | n + 1, S, v2, v3 =>
    if v3 < 0 then
      v2
    else
      if (F_D_isIn v3 v2) = 0 then
        (L_D_afterOneGoing_5 n S v2 (v3 + (-1)))
      else
        if (F_D_staysFor S (F_D_without v3 v2)) = 0 then
          (L_D_afterOneGoing_5 n S v2 (v3 + (-1)))
        else
          (L_D_afterOneGoing_5 n S (F_D_without v3 v2) (v3 + (-1)))
set_option maxRecDepth 100000 in
set_option maxHeartbeats 4000000 in
theorem l_D_afterOneGoing_5 (G : zG) (l : Launch) (a : Nat → Nat) {p : Program} {e : Env} {s : State} {m : MethodId} {args : Array Value} {below : List Frame} {meth : Method} {c : Code} {w0 : va_W} {Post : Option Value → va_W → Prop} (C : zC p s m args meth c b_D_afterOneGoing 4 N_D G (va_A w0 s.heap.size)) (hlk : meth.locks = false) (hr : meth.sig.returnType = some .int) :
    ∀ (n : Nat) (S : SD) (v2 : Int32) (v3 : Int32), (Int32.toInt v3 + 1).toNat < n → Post (some (.int (L_D_afterOneGoing_5 n S v2 v3))) (wD G a S) → zV p l e (zR 2 44) s m args below meth c 4 G (va_A w0 s.heap.size) (MQ below (zQ G w0 s.heap.size Post) args s 0 0 (va_A w0 s.heap.size)) 0 0 (wD G a S) 5 [(0, .ref (a 0)), (2, .int v2), (3, .int v3)] [] := by
  intro n
  induction n with
  | zero => intro S v2 v3 h; exact absurd h (Nat.not_lt_zero _)
  | succ n ih =>
    intro S v2 v3 hmu hq
    refine z_iload_n C 6 d_D_afterOneGoing_5 rfl rfl ?_
    refine z_if_lt C 41 9 d_D_afterOneGoing_6 (by decide) rfl (fun c_6 => ?_) (fun c_6 => ?_)
    · refine z_iload_n C 42 d_D_afterOneGoing_41 rfl rfl ?_
      exact z_iret C hlk hr d_D_afterOneGoing_42 (by rw [show L_D_afterOneGoing_5 (n + 1) S v2 v3 = v2 from by rw [L_D_afterOneGoing_5, if_pos c_6]] at hq; exact hq)
    · refine z_iload_n C 10 d_D_afterOneGoing_9 rfl rfl ?_
      refine z_iload_n C 11 d_D_afterOneGoing_10 rfl rfl ?_
      refine z_go0 C (z_S C kc_D_91 (c_D_isIn G l v3 v2) (st := []) rfl rfl (Nat.le_of_ble_eq_true rfl) ⟨⟨Nat.le_of_ble_eq_true rfl, Nat.le_of_ble_eq_true rfl⟩, Nat.le_of_ble_eq_true rfl, Nat.le_of_ble_eq_true rfl⟩ d_D_afterOneGoing_11) [0, 1, 2, 3, 4, 5, 6, 7, 8, 9, 10, 11, 12, 13, 14, 15, 16] [.int (F_D_isIn v3 v2)] 14 rfl rfl rfl rfl ?_
      refine z_if_eq C 35 17 d_D_afterOneGoing_14 (by decide) rfl (fun c_14 => ?_) (fun c_14 => ?_)
      · refine z_iinc C (v3 + (-1)) [(3, .int (v3 + (-1))), (0, .ref (a 0)), (2, .int v2)] 38 d_D_afterOneGoing_35 rfl (by decide) rfl rfl rfl ?_
        refine z_goto C 5 d_D_afterOneGoing_38 (by decide) ?_
        refine z_lvs [1, 2, 0] [(0, .ref (a 0)), (2, .int v2), (3, .int (v3 + (-1)))] rfl ?_
        exact ih S v2 (v3 + (-1)) (zdecD c_6 hmu) (by rw [show L_D_afterOneGoing_5 (n + 1) S v2 v3 = (L_D_afterOneGoing_5 n S v2 (v3 + (-1))) from by rw [L_D_afterOneGoing_5, if_neg c_6, if_pos c_14]] at hq; exact hq)
      · refine z_aload_n C 18 d_D_afterOneGoing_17 rfl rfl ?_
        refine z_iload_n C 19 d_D_afterOneGoing_18 rfl rfl ?_
        refine z_iload_n C 20 d_D_afterOneGoing_19 rfl rfl ?_
        refine z_go0 C (z_S C kc_D_97 (c_D_without G l v3 v2) (st := [.ref (a 0)]) rfl rfl (Nat.le_of_ble_eq_true rfl) ⟨⟨Nat.le_of_ble_eq_true rfl, Nat.le_of_ble_eq_true rfl⟩, Nat.le_of_ble_eq_true rfl, Nat.le_of_ble_eq_true rfl⟩ d_D_afterOneGoing_20) [0, 1, 2, 3, 4, 5, 6, 7, 8, 9, 10, 11, 12, 13, 14, 15, 16] [.int (F_D_without v3 v2), .ref (a 0)] 23 rfl rfl rfl rfl ?_
        refine z_goA C (z_V C kc_D_94 (c_D_staysFor G l a S (F_D_without v3 v2)) (st := []) 0 2 rfl rfl rfl rfl (Nat.le_of_ble_eq_true rfl) ⟨⟨Nat.le_of_ble_eq_true rfl, Nat.le_of_ble_eq_true rfl⟩, Nat.le_of_ble_eq_true rfl, Nat.le_of_ble_eq_true rfl⟩ d_D_afterOneGoing_23) [.int (F_D_staysFor S (F_D_without v3 v2))] 26 rfl rfl ?_
        refine z_if_eq C 35 29 d_D_afterOneGoing_26 (by decide) rfl (fun c_26 => ?_) (fun c_26 => ?_)
        · refine z_iinc C (v3 + (-1)) [(3, .int (v3 + (-1))), (0, .ref (a 0)), (2, .int v2)] 38 d_D_afterOneGoing_35 rfl (by decide) rfl rfl rfl ?_
          refine z_goto C 5 d_D_afterOneGoing_38 (by decide) ?_
          refine z_lvs [1, 2, 0] [(0, .ref (a 0)), (2, .int v2), (3, .int (v3 + (-1)))] rfl ?_
          exact ih S v2 (v3 + (-1)) (zdecD c_6 hmu) (by rw [show L_D_afterOneGoing_5 (n + 1) S v2 v3 = (L_D_afterOneGoing_5 n S v2 (v3 + (-1))) from by rw [L_D_afterOneGoing_5, if_neg c_6, if_neg c_14, if_pos c_26]] at hq; exact hq)
        · refine z_iload_n C 30 d_D_afterOneGoing_29 rfl rfl ?_
          refine z_iload_n C 31 d_D_afterOneGoing_30 rfl rfl ?_
          refine z_go0 C (z_S C kc_D_97 (c_D_without G l v3 v2) (st := []) rfl rfl (Nat.le_of_ble_eq_true rfl) ⟨⟨Nat.le_of_ble_eq_true rfl, Nat.le_of_ble_eq_true rfl⟩, Nat.le_of_ble_eq_true rfl, Nat.le_of_ble_eq_true rfl⟩ d_D_afterOneGoing_31) [0, 1, 2, 3, 4, 5, 6, 7, 8, 9, 10, 11, 12, 13, 14, 15, 16] [.int (F_D_without v3 v2)] 34 rfl rfl rfl rfl ?_
          refine z_istore_n C [(2, .int (F_D_without v3 v2)), (0, .ref (a 0)), (3, .int v3)] 35 d_D_afterOneGoing_34 rfl (by decide) rfl ?_
          refine z_iinc C (v3 + (-1)) [(3, .int (v3 + (-1))), (2, .int (F_D_without v3 v2)), (0, .ref (a 0))] 38 d_D_afterOneGoing_35 rfl (by decide) rfl rfl rfl ?_
          refine z_goto C 5 d_D_afterOneGoing_38 (by decide) ?_
          refine z_lvs [2, 1, 0] [(0, .ref (a 0)), (2, .int (F_D_without v3 v2)), (3, .int (v3 + (-1)))] rfl ?_
          exact ih S (F_D_without v3 v2) (v3 + (-1)) (zdecD c_6 hmu) (by rw [show L_D_afterOneGoing_5 (n + 1) S v2 v3 = (L_D_afterOneGoing_5 n S (F_D_without v3 v2) (v3 + (-1))) from by rw [L_D_afterOneGoing_5, if_neg c_6, if_neg c_14, if_neg c_26]] at hq; exact hq)
def F_D_afterOneGoing (S : SD) (x1 : Int32) : Int32 :=
  (L_D_afterOneGoing_5 ((Int32.toInt 20 + 1).toNat + 1) S x1 20)
set_option maxRecDepth 100000 in
set_option maxHeartbeats 4000000 in
theorem c_D_afterOneGoing (G : zG) (l : Launch) (a : Nat → Nat) (S : SD) (x1 : Int32)  : zM G l y_D_afterOneGoing b_D_afterOneGoing 4 (some .int) (zR 2 44) [.ref (a 0), .int x1] (wD G a S) (fun r1 w1 => r1 = some (.int (F_D_afterOneGoing S x1)) ∧ w1 = wD G a S) := by
  generalize hPost : (fun (r1 : Option Value) (w1 : va_W) => r1 = some (.int (F_D_afterOneGoing S x1)) ∧ w1 = wD G a S) = Post
  have hq : Post (some (.int (F_D_afterOneGoing S x1))) (wD G a S) := by rw [← hPost]; exact ⟨rfl, rfl⟩
  clear hPost
  refine zM_of (by decide) (Nat.le_of_ble_eq_true rfl) ?_
  intro p e s m args below meth c C hlk hr hin
  refine z_iload_n C 1 d_D_afterOneGoing_0 rfl rfl ?_
  refine z_istore_n C [(2, .int x1), (0, .ref (a 0)), (1, .int x1)] 2 d_D_afterOneGoing_1 rfl (by decide) rfl ?_
  refine z_bipush C 20 4 d_D_afterOneGoing_2 rfl (by decide) ?_
  refine z_istore_n C [(3, .int 20), (2, .int x1), (0, .ref (a 0)), (1, .int x1)] 5 d_D_afterOneGoing_4 rfl (by decide) rfl ?_
  refine z_lvs [2, 1, 0] [(0, .ref (a 0)), (2, .int x1), (3, .int 20)] rfl ?_
  exact l_D_afterOneGoing_5 G l a C hlk hr _ S x1 20 (Nat.lt_succ_self _) (by rw [show F_D_afterOneGoing S x1 = (L_D_afterOneGoing_5 ((Int32.toInt 20 + 1).toNat + 1) S x1 20) from by rw [F_D_afterOneGoing]] at hq; exact hq)

def L_D_smallerCase_14 : Nat → SD → Int32 → Int32 → Int32
  | 0, S, v2, v3 => 0
  | n + 1, S, v2, v3 =>
    if 21 < v3 then
      v2
    else
      if (F_D_afterOneGoing S v2) = v2 then
        v2
      else
        (L_D_smallerCase_14 n S (F_D_afterOneGoing S v2) (v3 + 1))
set_option maxRecDepth 100000 in
set_option maxHeartbeats 4000000 in
theorem l_D_smallerCase_14 (G : zG) (l : Launch) (a : Nat → Nat) {p : Program} {e : Env} {s : State} {m : MethodId} {args : Array Value} {below : List Frame} {meth : Method} {c : Code} {w0 : va_W} {Post : Option Value → va_W → Prop} (C : zC p s m args meth c b_D_smallerCase 5 N_D G (va_A w0 s.heap.size)) (hlk : meth.locks = false) (hr : meth.sig.returnType = some .int) :
    ∀ (n : Nat) (S : SD) (v2 : Int32) (v3 : Int32), (Int32.toInt 21 + 1 - Int32.toInt v3).toNat < n → Post (some (.int (L_D_smallerCase_14 n S v2 v3))) (wD G a S) → zV p l e (zR 3 67) s m args below meth c 5 G (va_A w0 s.heap.size) (MQ below (zQ G w0 s.heap.size Post) args s 0 0 (va_A w0 s.heap.size)) 0 0 (wD G a S) 14 [(0, .ref (a 0)), (2, .int v2), (3, .int v3)] [] := by
  intro n
  induction n with
  | zero => intro S v2 v3 h; exact absurd h (Nat.not_lt_zero _)
  | succ n ih =>
    intro S v2 v3 hmu hq
    refine z_iload_n C 15 d_D_smallerCase_14 rfl rfl ?_
    refine z_bipush C 21 17 d_D_smallerCase_15 rfl (by decide) ?_
    refine z_icmp_gt C 45 20 d_D_smallerCase_17 (by decide) rfl (fun c_17 => ?_) (fun c_17 => ?_)
    · refine z_iload_n C 46 d_D_smallerCase_45 rfl rfl ?_
      exact z_iret C hlk hr d_D_smallerCase_46 (by rw [show L_D_smallerCase_14 (n + 1) S v2 v3 = v2 from by rw [L_D_smallerCase_14, if_pos c_17]] at hq; exact hq)
    · refine z_aload_n C 21 d_D_smallerCase_20 rfl rfl ?_
      refine z_iload_n C 22 d_D_smallerCase_21 rfl rfl ?_
      refine z_goA C (z_V C kc_D_113 (c_D_afterOneGoing G l a S v2) (st := []) 0 2 rfl rfl rfl rfl (Nat.le_of_ble_eq_true rfl) ⟨⟨Nat.le_of_ble_eq_true rfl, Nat.le_of_ble_eq_true rfl⟩, Nat.le_of_ble_eq_true rfl, Nat.le_of_ble_eq_true rfl⟩ d_D_smallerCase_22) [.int (F_D_afterOneGoing S v2)] 25 rfl rfl ?_
      refine z_istore C [(4, .int (F_D_afterOneGoing S v2)), (0, .ref (a 0)), (2, .int v2), (3, .int v3)] 27 d_D_smallerCase_25 rfl (by decide) rfl ?_
      refine z_iload C 29 d_D_smallerCase_27 rfl rfl ?_
      refine z_iload_n C 30 d_D_smallerCase_29 rfl rfl ?_
      refine z_icmp_ne C 36 33 d_D_smallerCase_30 (by decide) rfl (fun c_30 => ?_) (fun c_30 => ?_)
      · refine z_iload C 38 d_D_smallerCase_36 rfl rfl ?_
        refine z_istore_n C [(2, .int (F_D_afterOneGoing S v2)), (4, .int (F_D_afterOneGoing S v2)), (0, .ref (a 0)), (3, .int v3)] 39 d_D_smallerCase_38 rfl (by decide) rfl ?_
        refine z_iinc C (v3 + 1) [(3, .int (v3 + 1)), (2, .int (F_D_afterOneGoing S v2)), (4, .int (F_D_afterOneGoing S v2)), (0, .ref (a 0))] 42 d_D_smallerCase_39 rfl (by decide) rfl rfl rfl ?_
        refine z_goto C 14 d_D_smallerCase_42 (by decide) ?_
        refine z_lvs [3, 1, 0] [(0, .ref (a 0)), (2, .int (F_D_afterOneGoing S v2)), (3, .int (v3 + 1))] rfl ?_
        exact ih S (F_D_afterOneGoing S v2) (v3 + 1) (zdecL (by decide) c_17 hmu) (by rw [show L_D_smallerCase_14 (n + 1) S v2 v3 = (L_D_smallerCase_14 n S (F_D_afterOneGoing S v2) (v3 + 1)) from by rw [L_D_smallerCase_14, if_neg c_17, if_neg c_30]] at hq; exact hq)
      · refine z_goto C 45 d_D_smallerCase_33 (by decide) ?_
        refine z_iload_n C 46 d_D_smallerCase_45 rfl rfl ?_
        exact z_iret C hlk hr d_D_smallerCase_46 (by rw [show L_D_smallerCase_14 (n + 1) S v2 v3 = v2 from by rw [L_D_smallerCase_14, if_neg c_17, if_pos c_30]] at hq; exact hq)
def F_D_smallerCase (S : SD) (x1 : Int32) : Int32 :=
  if (F_D_staysFor S x1) = 0 then
    x1
  else
    (L_D_smallerCase_14 ((Int32.toInt 21 + 1 - Int32.toInt 0).toNat + 1) S x1 0)
set_option maxRecDepth 100000 in
set_option maxHeartbeats 4000000 in
theorem c_D_smallerCase (G : zG) (l : Launch) (a : Nat → Nat) (S : SD) (x1 : Int32)  : zM G l y_D_smallerCase b_D_smallerCase 5 (some .int) (zR 3 67) [.ref (a 0), .int x1] (wD G a S) (fun r1 w1 => r1 = some (.int (F_D_smallerCase S x1)) ∧ w1 = wD G a S) := by
  generalize hPost : (fun (r1 : Option Value) (w1 : va_W) => r1 = some (.int (F_D_smallerCase S x1)) ∧ w1 = wD G a S) = Post
  have hq : Post (some (.int (F_D_smallerCase S x1))) (wD G a S) := by rw [← hPost]; exact ⟨rfl, rfl⟩
  clear hPost
  refine zM_of (by decide) (Nat.le_of_ble_eq_true rfl) ?_
  intro p e s m args below meth c C hlk hr hin
  refine z_aload_n C 1 d_D_smallerCase_0 rfl rfl ?_
  refine z_iload_n C 2 d_D_smallerCase_1 rfl rfl ?_
  refine z_goA C (z_V C kc_D_94 (c_D_staysFor G l a S x1) (st := []) 0 2 rfl rfl rfl rfl (Nat.le_of_ble_eq_true rfl) ⟨⟨Nat.le_of_ble_eq_true rfl, Nat.le_of_ble_eq_true rfl⟩, Nat.le_of_ble_eq_true rfl, Nat.le_of_ble_eq_true rfl⟩ d_D_smallerCase_2) [.int (F_D_staysFor S x1)] 5 rfl rfl ?_
  refine z_if_ne C 10 8 d_D_smallerCase_5 (by decide) rfl (fun c_5 => ?_) (fun c_5 => ?_)
  · refine z_iload_n C 11 d_D_smallerCase_10 rfl rfl ?_
    refine z_istore_n C [(2, .int x1), (0, .ref (a 0)), (1, .int x1)] 12 d_D_smallerCase_11 rfl (by decide) rfl ?_
    refine z_iconst C 0 13 d_D_smallerCase_12 rfl (by decide) ?_
    refine z_istore_n C [(3, .int 0), (2, .int x1), (0, .ref (a 0)), (1, .int x1)] 14 d_D_smallerCase_13 rfl (by decide) rfl ?_
    refine z_lvs [2, 1, 0] [(0, .ref (a 0)), (2, .int x1), (3, .int 0)] rfl ?_
    exact l_D_smallerCase_14 G l a C hlk hr _ S x1 0 (Nat.lt_succ_self _) (by rw [show F_D_smallerCase S x1 = (L_D_smallerCase_14 ((Int32.toInt 21 + 1 - Int32.toInt 0).toNat + 1) S x1 0) from by rw [F_D_smallerCase, if_neg c_5]] at hq; exact hq)
  · refine z_iload_n C 9 d_D_smallerCase_8 rfl rfl ?_
    exact z_iret C hlk hr d_D_smallerCase_9 (by rw [show F_D_smallerCase S x1 = x1 from by rw [F_D_smallerCase, if_pos c_5]] at hq; exact hq)

def F_J_bitCount (x0 : Int32) : Int32 :=
  ((((((((x0 - (((Int32.toUInt32 x0 >>> (Int32.toUInt32 1 &&& Int32.toUInt32 31)).toInt32) &&& 1431655765)) &&& 858993459) + (((Int32.toUInt32 (x0 - (((Int32.toUInt32 x0 >>> (Int32.toUInt32 1 &&& Int32.toUInt32 31)).toInt32) &&& 1431655765)) >>> (Int32.toUInt32 2 &&& Int32.toUInt32 31)).toInt32) &&& 858993459)) + ((Int32.toUInt32 (((x0 - (((Int32.toUInt32 x0 >>> (Int32.toUInt32 1 &&& Int32.toUInt32 31)).toInt32) &&& 1431655765)) &&& 858993459) + (((Int32.toUInt32 (x0 - (((Int32.toUInt32 x0 >>> (Int32.toUInt32 1 &&& Int32.toUInt32 31)).toInt32) &&& 1431655765)) >>> (Int32.toUInt32 2 &&& Int32.toUInt32 31)).toInt32) &&& 858993459)) >>> (Int32.toUInt32 4 &&& Int32.toUInt32 31)).toInt32)) &&& 252645135) + ((Int32.toUInt32 (((((x0 - (((Int32.toUInt32 x0 >>> (Int32.toUInt32 1 &&& Int32.toUInt32 31)).toInt32) &&& 1431655765)) &&& 858993459) + (((Int32.toUInt32 (x0 - (((Int32.toUInt32 x0 >>> (Int32.toUInt32 1 &&& Int32.toUInt32 31)).toInt32) &&& 1431655765)) >>> (Int32.toUInt32 2 &&& Int32.toUInt32 31)).toInt32) &&& 858993459)) + ((Int32.toUInt32 (((x0 - (((Int32.toUInt32 x0 >>> (Int32.toUInt32 1 &&& Int32.toUInt32 31)).toInt32) &&& 1431655765)) &&& 858993459) + (((Int32.toUInt32 (x0 - (((Int32.toUInt32 x0 >>> (Int32.toUInt32 1 &&& Int32.toUInt32 31)).toInt32) &&& 1431655765)) >>> (Int32.toUInt32 2 &&& Int32.toUInt32 31)).toInt32) &&& 858993459)) >>> (Int32.toUInt32 4 &&& Int32.toUInt32 31)).toInt32)) &&& 252645135) >>> (Int32.toUInt32 8 &&& Int32.toUInt32 31)).toInt32)) + ((Int32.toUInt32 ((((((x0 - (((Int32.toUInt32 x0 >>> (Int32.toUInt32 1 &&& Int32.toUInt32 31)).toInt32) &&& 1431655765)) &&& 858993459) + (((Int32.toUInt32 (x0 - (((Int32.toUInt32 x0 >>> (Int32.toUInt32 1 &&& Int32.toUInt32 31)).toInt32) &&& 1431655765)) >>> (Int32.toUInt32 2 &&& Int32.toUInt32 31)).toInt32) &&& 858993459)) + ((Int32.toUInt32 (((x0 - (((Int32.toUInt32 x0 >>> (Int32.toUInt32 1 &&& Int32.toUInt32 31)).toInt32) &&& 1431655765)) &&& 858993459) + (((Int32.toUInt32 (x0 - (((Int32.toUInt32 x0 >>> (Int32.toUInt32 1 &&& Int32.toUInt32 31)).toInt32) &&& 1431655765)) >>> (Int32.toUInt32 2 &&& Int32.toUInt32 31)).toInt32) &&& 858993459)) >>> (Int32.toUInt32 4 &&& Int32.toUInt32 31)).toInt32)) &&& 252645135) + ((Int32.toUInt32 (((((x0 - (((Int32.toUInt32 x0 >>> (Int32.toUInt32 1 &&& Int32.toUInt32 31)).toInt32) &&& 1431655765)) &&& 858993459) + (((Int32.toUInt32 (x0 - (((Int32.toUInt32 x0 >>> (Int32.toUInt32 1 &&& Int32.toUInt32 31)).toInt32) &&& 1431655765)) >>> (Int32.toUInt32 2 &&& Int32.toUInt32 31)).toInt32) &&& 858993459)) + ((Int32.toUInt32 (((x0 - (((Int32.toUInt32 x0 >>> (Int32.toUInt32 1 &&& Int32.toUInt32 31)).toInt32) &&& 1431655765)) &&& 858993459) + (((Int32.toUInt32 (x0 - (((Int32.toUInt32 x0 >>> (Int32.toUInt32 1 &&& Int32.toUInt32 31)).toInt32) &&& 1431655765)) >>> (Int32.toUInt32 2 &&& Int32.toUInt32 31)).toInt32) &&& 858993459)) >>> (Int32.toUInt32 4 &&& Int32.toUInt32 31)).toInt32)) &&& 252645135) >>> (Int32.toUInt32 8 &&& Int32.toUInt32 31)).toInt32)) >>> (Int32.toUInt32 16 &&& Int32.toUInt32 31)).toInt32)) &&& 63)
set_option maxRecDepth 100000 in
set_option maxHeartbeats 4000000 in
theorem c_J_bitCount (G : zG) (l : Launch) (x0 : Int32)  : zM G l y_J_bitCount b_J_bitCount 1 (some .int) (zR 0 0) [.int x0] ([]) (fun r1 w1 => r1 = some (.int (F_J_bitCount x0)) ∧ w1 = []) := by
  generalize hPost : (fun (r1 : Option Value) (w1 : va_W) => r1 = some (.int (F_J_bitCount x0)) ∧ w1 = []) = Post
  have hq : Post (some (.int (F_J_bitCount x0))) ([]) := by rw [← hPost]; exact ⟨rfl, rfl⟩
  clear hPost
  refine zM_of (by decide) (Nat.le_of_ble_eq_true rfl) ?_
  intro p e s m args below meth c C hlk hr hin
  refine z_iload_n C 1 d_J_bitCount_0 rfl rfl ?_
  refine z_iload_n C 2 d_J_bitCount_1 rfl rfl ?_
  refine z_iconst C 1 3 d_J_bitCount_2 rfl (by decide) ?_
  refine z_iushr C 4 d_J_bitCount_3 rfl ?_
  refine z_ldcw C 1431655765 7 d_J_bitCount_4 rfl kk_J_265 ?_
  refine z_iand C 8 d_J_bitCount_7 rfl ?_
  refine z_isub C 9 d_J_bitCount_8 rfl ?_
  refine z_istore_n C [(0, .int (x0 - (((Int32.toUInt32 x0 >>> (Int32.toUInt32 1 &&& Int32.toUInt32 31)).toInt32) &&& 1431655765)))] 10 d_J_bitCount_9 rfl (by decide) rfl ?_
  refine z_iload_n C 11 d_J_bitCount_10 rfl rfl ?_
  refine z_ldcw C 858993459 14 d_J_bitCount_11 rfl kk_J_266 ?_
  refine z_iand C 15 d_J_bitCount_14 rfl ?_
  refine z_iload_n C 16 d_J_bitCount_15 rfl rfl ?_
  refine z_iconst C 2 17 d_J_bitCount_16 rfl (by decide) ?_
  refine z_iushr C 18 d_J_bitCount_17 rfl ?_
  refine z_ldcw C 858993459 21 d_J_bitCount_18 rfl kk_J_266 ?_
  refine z_iand C 22 d_J_bitCount_21 rfl ?_
  refine z_iadd C 23 d_J_bitCount_22 rfl ?_
  refine z_istore_n C [(0, .int (((x0 - (((Int32.toUInt32 x0 >>> (Int32.toUInt32 1 &&& Int32.toUInt32 31)).toInt32) &&& 1431655765)) &&& 858993459) + (((Int32.toUInt32 (x0 - (((Int32.toUInt32 x0 >>> (Int32.toUInt32 1 &&& Int32.toUInt32 31)).toInt32) &&& 1431655765)) >>> (Int32.toUInt32 2 &&& Int32.toUInt32 31)).toInt32) &&& 858993459)))] 24 d_J_bitCount_23 rfl (by decide) rfl ?_
  refine z_iload_n C 25 d_J_bitCount_24 rfl rfl ?_
  refine z_iload_n C 26 d_J_bitCount_25 rfl rfl ?_
  refine z_iconst C 4 27 d_J_bitCount_26 rfl (by decide) ?_
  refine z_iushr C 28 d_J_bitCount_27 rfl ?_
  refine z_iadd C 29 d_J_bitCount_28 rfl ?_
  refine z_ldcw C 252645135 32 d_J_bitCount_29 rfl kk_J_267 ?_
  refine z_iand C 33 d_J_bitCount_32 rfl ?_
  refine z_istore_n C [(0, .int (((((x0 - (((Int32.toUInt32 x0 >>> (Int32.toUInt32 1 &&& Int32.toUInt32 31)).toInt32) &&& 1431655765)) &&& 858993459) + (((Int32.toUInt32 (x0 - (((Int32.toUInt32 x0 >>> (Int32.toUInt32 1 &&& Int32.toUInt32 31)).toInt32) &&& 1431655765)) >>> (Int32.toUInt32 2 &&& Int32.toUInt32 31)).toInt32) &&& 858993459)) + ((Int32.toUInt32 (((x0 - (((Int32.toUInt32 x0 >>> (Int32.toUInt32 1 &&& Int32.toUInt32 31)).toInt32) &&& 1431655765)) &&& 858993459) + (((Int32.toUInt32 (x0 - (((Int32.toUInt32 x0 >>> (Int32.toUInt32 1 &&& Int32.toUInt32 31)).toInt32) &&& 1431655765)) >>> (Int32.toUInt32 2 &&& Int32.toUInt32 31)).toInt32) &&& 858993459)) >>> (Int32.toUInt32 4 &&& Int32.toUInt32 31)).toInt32)) &&& 252645135))] 34 d_J_bitCount_33 rfl (by decide) rfl ?_
  refine z_iload_n C 35 d_J_bitCount_34 rfl rfl ?_
  refine z_iload_n C 36 d_J_bitCount_35 rfl rfl ?_
  refine z_bipush C 8 38 d_J_bitCount_36 rfl (by decide) ?_
  refine z_iushr C 39 d_J_bitCount_38 rfl ?_
  refine z_iadd C 40 d_J_bitCount_39 rfl ?_
  refine z_istore_n C [(0, .int ((((((x0 - (((Int32.toUInt32 x0 >>> (Int32.toUInt32 1 &&& Int32.toUInt32 31)).toInt32) &&& 1431655765)) &&& 858993459) + (((Int32.toUInt32 (x0 - (((Int32.toUInt32 x0 >>> (Int32.toUInt32 1 &&& Int32.toUInt32 31)).toInt32) &&& 1431655765)) >>> (Int32.toUInt32 2 &&& Int32.toUInt32 31)).toInt32) &&& 858993459)) + ((Int32.toUInt32 (((x0 - (((Int32.toUInt32 x0 >>> (Int32.toUInt32 1 &&& Int32.toUInt32 31)).toInt32) &&& 1431655765)) &&& 858993459) + (((Int32.toUInt32 (x0 - (((Int32.toUInt32 x0 >>> (Int32.toUInt32 1 &&& Int32.toUInt32 31)).toInt32) &&& 1431655765)) >>> (Int32.toUInt32 2 &&& Int32.toUInt32 31)).toInt32) &&& 858993459)) >>> (Int32.toUInt32 4 &&& Int32.toUInt32 31)).toInt32)) &&& 252645135) + ((Int32.toUInt32 (((((x0 - (((Int32.toUInt32 x0 >>> (Int32.toUInt32 1 &&& Int32.toUInt32 31)).toInt32) &&& 1431655765)) &&& 858993459) + (((Int32.toUInt32 (x0 - (((Int32.toUInt32 x0 >>> (Int32.toUInt32 1 &&& Int32.toUInt32 31)).toInt32) &&& 1431655765)) >>> (Int32.toUInt32 2 &&& Int32.toUInt32 31)).toInt32) &&& 858993459)) + ((Int32.toUInt32 (((x0 - (((Int32.toUInt32 x0 >>> (Int32.toUInt32 1 &&& Int32.toUInt32 31)).toInt32) &&& 1431655765)) &&& 858993459) + (((Int32.toUInt32 (x0 - (((Int32.toUInt32 x0 >>> (Int32.toUInt32 1 &&& Int32.toUInt32 31)).toInt32) &&& 1431655765)) >>> (Int32.toUInt32 2 &&& Int32.toUInt32 31)).toInt32) &&& 858993459)) >>> (Int32.toUInt32 4 &&& Int32.toUInt32 31)).toInt32)) &&& 252645135) >>> (Int32.toUInt32 8 &&& Int32.toUInt32 31)).toInt32)))] 41 d_J_bitCount_40 rfl (by decide) rfl ?_
  refine z_iload_n C 42 d_J_bitCount_41 rfl rfl ?_
  refine z_iload_n C 43 d_J_bitCount_42 rfl rfl ?_
  refine z_bipush C 16 45 d_J_bitCount_43 rfl (by decide) ?_
  refine z_iushr C 46 d_J_bitCount_45 rfl ?_
  refine z_iadd C 47 d_J_bitCount_46 rfl ?_
  refine z_istore_n C [(0, .int (((((((x0 - (((Int32.toUInt32 x0 >>> (Int32.toUInt32 1 &&& Int32.toUInt32 31)).toInt32) &&& 1431655765)) &&& 858993459) + (((Int32.toUInt32 (x0 - (((Int32.toUInt32 x0 >>> (Int32.toUInt32 1 &&& Int32.toUInt32 31)).toInt32) &&& 1431655765)) >>> (Int32.toUInt32 2 &&& Int32.toUInt32 31)).toInt32) &&& 858993459)) + ((Int32.toUInt32 (((x0 - (((Int32.toUInt32 x0 >>> (Int32.toUInt32 1 &&& Int32.toUInt32 31)).toInt32) &&& 1431655765)) &&& 858993459) + (((Int32.toUInt32 (x0 - (((Int32.toUInt32 x0 >>> (Int32.toUInt32 1 &&& Int32.toUInt32 31)).toInt32) &&& 1431655765)) >>> (Int32.toUInt32 2 &&& Int32.toUInt32 31)).toInt32) &&& 858993459)) >>> (Int32.toUInt32 4 &&& Int32.toUInt32 31)).toInt32)) &&& 252645135) + ((Int32.toUInt32 (((((x0 - (((Int32.toUInt32 x0 >>> (Int32.toUInt32 1 &&& Int32.toUInt32 31)).toInt32) &&& 1431655765)) &&& 858993459) + (((Int32.toUInt32 (x0 - (((Int32.toUInt32 x0 >>> (Int32.toUInt32 1 &&& Int32.toUInt32 31)).toInt32) &&& 1431655765)) >>> (Int32.toUInt32 2 &&& Int32.toUInt32 31)).toInt32) &&& 858993459)) + ((Int32.toUInt32 (((x0 - (((Int32.toUInt32 x0 >>> (Int32.toUInt32 1 &&& Int32.toUInt32 31)).toInt32) &&& 1431655765)) &&& 858993459) + (((Int32.toUInt32 (x0 - (((Int32.toUInt32 x0 >>> (Int32.toUInt32 1 &&& Int32.toUInt32 31)).toInt32) &&& 1431655765)) >>> (Int32.toUInt32 2 &&& Int32.toUInt32 31)).toInt32) &&& 858993459)) >>> (Int32.toUInt32 4 &&& Int32.toUInt32 31)).toInt32)) &&& 252645135) >>> (Int32.toUInt32 8 &&& Int32.toUInt32 31)).toInt32)) + ((Int32.toUInt32 ((((((x0 - (((Int32.toUInt32 x0 >>> (Int32.toUInt32 1 &&& Int32.toUInt32 31)).toInt32) &&& 1431655765)) &&& 858993459) + (((Int32.toUInt32 (x0 - (((Int32.toUInt32 x0 >>> (Int32.toUInt32 1 &&& Int32.toUInt32 31)).toInt32) &&& 1431655765)) >>> (Int32.toUInt32 2 &&& Int32.toUInt32 31)).toInt32) &&& 858993459)) + ((Int32.toUInt32 (((x0 - (((Int32.toUInt32 x0 >>> (Int32.toUInt32 1 &&& Int32.toUInt32 31)).toInt32) &&& 1431655765)) &&& 858993459) + (((Int32.toUInt32 (x0 - (((Int32.toUInt32 x0 >>> (Int32.toUInt32 1 &&& Int32.toUInt32 31)).toInt32) &&& 1431655765)) >>> (Int32.toUInt32 2 &&& Int32.toUInt32 31)).toInt32) &&& 858993459)) >>> (Int32.toUInt32 4 &&& Int32.toUInt32 31)).toInt32)) &&& 252645135) + ((Int32.toUInt32 (((((x0 - (((Int32.toUInt32 x0 >>> (Int32.toUInt32 1 &&& Int32.toUInt32 31)).toInt32) &&& 1431655765)) &&& 858993459) + (((Int32.toUInt32 (x0 - (((Int32.toUInt32 x0 >>> (Int32.toUInt32 1 &&& Int32.toUInt32 31)).toInt32) &&& 1431655765)) >>> (Int32.toUInt32 2 &&& Int32.toUInt32 31)).toInt32) &&& 858993459)) + ((Int32.toUInt32 (((x0 - (((Int32.toUInt32 x0 >>> (Int32.toUInt32 1 &&& Int32.toUInt32 31)).toInt32) &&& 1431655765)) &&& 858993459) + (((Int32.toUInt32 (x0 - (((Int32.toUInt32 x0 >>> (Int32.toUInt32 1 &&& Int32.toUInt32 31)).toInt32) &&& 1431655765)) >>> (Int32.toUInt32 2 &&& Int32.toUInt32 31)).toInt32) &&& 858993459)) >>> (Int32.toUInt32 4 &&& Int32.toUInt32 31)).toInt32)) &&& 252645135) >>> (Int32.toUInt32 8 &&& Int32.toUInt32 31)).toInt32)) >>> (Int32.toUInt32 16 &&& Int32.toUInt32 31)).toInt32)))] 48 d_J_bitCount_47 rfl (by decide) rfl ?_
  refine z_iload_n C 49 d_J_bitCount_48 rfl rfl ?_
  refine z_bipush C 63 51 d_J_bitCount_49 rfl (by decide) ?_
  refine z_iand C 52 d_J_bitCount_51 rfl ?_
  exact z_iret C hlk hr d_J_bitCount_52 (by rw [show F_J_bitCount x0 = ((((((((x0 - (((Int32.toUInt32 x0 >>> (Int32.toUInt32 1 &&& Int32.toUInt32 31)).toInt32) &&& 1431655765)) &&& 858993459) + (((Int32.toUInt32 (x0 - (((Int32.toUInt32 x0 >>> (Int32.toUInt32 1 &&& Int32.toUInt32 31)).toInt32) &&& 1431655765)) >>> (Int32.toUInt32 2 &&& Int32.toUInt32 31)).toInt32) &&& 858993459)) + ((Int32.toUInt32 (((x0 - (((Int32.toUInt32 x0 >>> (Int32.toUInt32 1 &&& Int32.toUInt32 31)).toInt32) &&& 1431655765)) &&& 858993459) + (((Int32.toUInt32 (x0 - (((Int32.toUInt32 x0 >>> (Int32.toUInt32 1 &&& Int32.toUInt32 31)).toInt32) &&& 1431655765)) >>> (Int32.toUInt32 2 &&& Int32.toUInt32 31)).toInt32) &&& 858993459)) >>> (Int32.toUInt32 4 &&& Int32.toUInt32 31)).toInt32)) &&& 252645135) + ((Int32.toUInt32 (((((x0 - (((Int32.toUInt32 x0 >>> (Int32.toUInt32 1 &&& Int32.toUInt32 31)).toInt32) &&& 1431655765)) &&& 858993459) + (((Int32.toUInt32 (x0 - (((Int32.toUInt32 x0 >>> (Int32.toUInt32 1 &&& Int32.toUInt32 31)).toInt32) &&& 1431655765)) >>> (Int32.toUInt32 2 &&& Int32.toUInt32 31)).toInt32) &&& 858993459)) + ((Int32.toUInt32 (((x0 - (((Int32.toUInt32 x0 >>> (Int32.toUInt32 1 &&& Int32.toUInt32 31)).toInt32) &&& 1431655765)) &&& 858993459) + (((Int32.toUInt32 (x0 - (((Int32.toUInt32 x0 >>> (Int32.toUInt32 1 &&& Int32.toUInt32 31)).toInt32) &&& 1431655765)) >>> (Int32.toUInt32 2 &&& Int32.toUInt32 31)).toInt32) &&& 858993459)) >>> (Int32.toUInt32 4 &&& Int32.toUInt32 31)).toInt32)) &&& 252645135) >>> (Int32.toUInt32 8 &&& Int32.toUInt32 31)).toInt32)) + ((Int32.toUInt32 ((((((x0 - (((Int32.toUInt32 x0 >>> (Int32.toUInt32 1 &&& Int32.toUInt32 31)).toInt32) &&& 1431655765)) &&& 858993459) + (((Int32.toUInt32 (x0 - (((Int32.toUInt32 x0 >>> (Int32.toUInt32 1 &&& Int32.toUInt32 31)).toInt32) &&& 1431655765)) >>> (Int32.toUInt32 2 &&& Int32.toUInt32 31)).toInt32) &&& 858993459)) + ((Int32.toUInt32 (((x0 - (((Int32.toUInt32 x0 >>> (Int32.toUInt32 1 &&& Int32.toUInt32 31)).toInt32) &&& 1431655765)) &&& 858993459) + (((Int32.toUInt32 (x0 - (((Int32.toUInt32 x0 >>> (Int32.toUInt32 1 &&& Int32.toUInt32 31)).toInt32) &&& 1431655765)) >>> (Int32.toUInt32 2 &&& Int32.toUInt32 31)).toInt32) &&& 858993459)) >>> (Int32.toUInt32 4 &&& Int32.toUInt32 31)).toInt32)) &&& 252645135) + ((Int32.toUInt32 (((((x0 - (((Int32.toUInt32 x0 >>> (Int32.toUInt32 1 &&& Int32.toUInt32 31)).toInt32) &&& 1431655765)) &&& 858993459) + (((Int32.toUInt32 (x0 - (((Int32.toUInt32 x0 >>> (Int32.toUInt32 1 &&& Int32.toUInt32 31)).toInt32) &&& 1431655765)) >>> (Int32.toUInt32 2 &&& Int32.toUInt32 31)).toInt32) &&& 858993459)) + ((Int32.toUInt32 (((x0 - (((Int32.toUInt32 x0 >>> (Int32.toUInt32 1 &&& Int32.toUInt32 31)).toInt32) &&& 1431655765)) &&& 858993459) + (((Int32.toUInt32 (x0 - (((Int32.toUInt32 x0 >>> (Int32.toUInt32 1 &&& Int32.toUInt32 31)).toInt32) &&& 1431655765)) >>> (Int32.toUInt32 2 &&& Int32.toUInt32 31)).toInt32) &&& 858993459)) >>> (Int32.toUInt32 4 &&& Int32.toUInt32 31)).toInt32)) &&& 252645135) >>> (Int32.toUInt32 8 &&& Int32.toUInt32 31)).toInt32)) >>> (Int32.toUInt32 16 &&& Int32.toUInt32 31)).toInt32)) &&& 63) from by rw [F_J_bitCount]] at hq; exact hq)

def F_D_shorter (S : SD)  : Int32 × SD :=
  ((F_J_bitCount (F_D_smallerCase S (F_K_allParts (sD_drawn S)))), (uD_leftParts S (F_D_smallerCase S (F_K_allParts (sD_drawn S)))))
set_option maxRecDepth 100000 in
set_option maxHeartbeats 4000000 in
theorem c_D_shorter (G : zG) (l : Launch) (a : Nat → Nat) (S : SD)   : zM G l y_D_shorter b_D_shorter 1 (some .int) (zR 4 91) [.ref (a 0)] (wD G a S) (fun r1 w1 => r1 = some (.int (F_D_shorter S).1) ∧ w1 = wD G a (F_D_shorter S).2) := by
  generalize hPost : (fun (r1 : Option Value) (w1 : va_W) => r1 = some (.int (F_D_shorter S).1) ∧ w1 = wD G a (F_D_shorter S).2) = Post
  have hq : Post (some (.int (F_D_shorter S).1)) (wD G a (F_D_shorter S).2) := by rw [← hPost]; exact ⟨rfl, rfl⟩
  clear hPost
  refine zM_of (by decide) (Nat.le_of_ble_eq_true rfl) ?_
  intro p e s m args below meth c C hlk hr hin
  refine z_aload_n C 1 d_D_shorter_0 rfl rfl ?_
  refine z_aload_n C 2 d_D_shorter_1 rfl rfl ?_
  refine z_aload_n C 3 d_D_shorter_2 rfl rfl ?_
  refine z_get C kf_D_12 0 (v := .ref (a 1)) 6 d_D_shorter_3 rfl rfl rfl ?_
  refine z_go_drawn_ro C (z_V C kc_D_51 (c_K_allParts G l (fun i => a (i + 1)) (sD_drawn S)) (st := [.ref (a 0), .ref (a 0)]) 0 0 rfl rfl rfl rfl (Nat.le_of_ble_eq_true rfl) ⟨⟨Nat.le_of_ble_eq_true rfl, Nat.le_of_ble_eq_true rfl⟩, Nat.le_of_ble_eq_true rfl, Nat.le_of_ble_eq_true rfl⟩ d_D_shorter_6) [.int (F_K_allParts (sD_drawn S)), .ref (a 0), .ref (a 0)] 9 rfl rfl ?_
  refine z_goA C (z_V C kc_D_83 (c_D_smallerCase G l a S (F_K_allParts (sD_drawn S))) (st := [.ref (a 0)]) 0 2 rfl rfl rfl rfl (Nat.le_of_ble_eq_true rfl) ⟨⟨Nat.le_of_ble_eq_true rfl, Nat.le_of_ble_eq_true rfl⟩, Nat.le_of_ble_eq_true rfl, Nat.le_of_ble_eq_true rfl⟩ d_D_shorter_9) [.int (F_D_smallerCase S (F_K_allParts (sD_drawn S))), .ref (a 0)] 12 rfl rfl ?_
  refine z_put C kf_D_32 kp_D 0 (wD G a (uD_leftParts S (F_D_smallerCase S (F_K_allParts (sD_drawn S))))) 15 d_D_shorter_12 rfl rfl rfl (znr_i _) (zft_i _) (Nat.le_of_ble_eq_true rfl) (wD_put_leftParts G a S (F_D_smallerCase S (F_K_allParts (sD_drawn S)))) ?_
  refine z_aload_n C 16 d_D_shorter_15 rfl rfl ?_
  refine z_get C kf_D_32 0 (v := .int (F_D_smallerCase S (F_K_allParts (sD_drawn S)))) 19 d_D_shorter_16 rfl rfl rfl ?_
  refine z_go0 C (z_S C kc_D_86 (c_J_bitCount G l (F_D_smallerCase S (F_K_allParts (sD_drawn S)))) (st := []) rfl rfl (Nat.le_of_ble_eq_true rfl) ⟨⟨Nat.le_of_ble_eq_true rfl, Nat.le_of_ble_eq_true rfl⟩, Nat.le_of_ble_eq_true rfl, Nat.le_of_ble_eq_true rfl⟩ d_D_shorter_19) [0, 1, 2, 3, 4, 5, 6, 7, 8, 9, 10, 11, 12, 13, 14, 15, 16] [.int (F_J_bitCount (F_D_smallerCase S (F_K_allParts (sD_drawn S))))] 22 rfl rfl rfl rfl ?_
  exact z_iret C hlk hr d_D_shorter_22 (by rw [show F_D_shorter S = ((F_J_bitCount (F_D_smallerCase S (F_K_allParts (sD_drawn S)))), (uD_leftParts S (F_D_smallerCase S (F_K_allParts (sD_drawn S))))) from by rw [F_D_shorter]] at hq; exact hq)

def L_D_sameSigns_2 : Nat → SD → Int32 → Int32
  | 0, S, v1 => 0
  | n + 1, S, v1 =>
    if 147 ≤ v1 then
      1
    else
      if (F_K_sign (sD_ours S) v1) = (F_K_sign (sD_theirs S) v1) then
        (L_D_sameSigns_2 n S (v1 + 1))
      else
        0
set_option maxRecDepth 100000 in
set_option maxHeartbeats 4000000 in
theorem l_D_sameSigns_2 (G : zG) (l : Launch) (a : Nat → Nat) {p : Program} {e : Env} {s : State} {m : MethodId} {args : Array Value} {below : List Frame} {meth : Method} {c : Code} {w0 : va_W} {Post : Option Value → va_W → Prop} (C : zC p s m args meth c b_D_sameSigns 2 N_D G (va_A w0 s.heap.size)) (hlk : meth.locks = false) (hr : meth.sig.returnType = some .boolean) :
    ∀ (n : Nat) (S : SD) (v1 : Int32), (Int32.toInt 147 - Int32.toInt v1).toNat < n → Post (some (.int (L_D_sameSigns_2 n S v1))) (wD G a S) → zV p l e (zR 1 21) s m args below meth c 2 G (va_A w0 s.heap.size) (MQ below (zQ G w0 s.heap.size Post) args s 0 0 (va_A w0 s.heap.size)) 0 0 (wD G a S) 2 [(0, .ref (a 0)), (1, .int v1)] [] := by
  intro n
  induction n with
  | zero => intro S v1 h; exact absurd h (Nat.not_lt_zero _)
  | succ n ih =>
    intro S v1 hmu hq
    refine z_iload_n C 3 d_D_sameSigns_2 rfl rfl ?_
    refine z_sipush C 147 6 d_D_sameSigns_3 rfl (by decide) ?_
    refine z_icmp_ge C 36 9 d_D_sameSigns_6 (by decide) rfl (fun c_6 => ?_) (fun c_6 => ?_)
    · refine z_iconst C 1 37 d_D_sameSigns_36 rfl (by decide) ?_
      exact z_zret C hlk rfl hr d_D_sameSigns_37 (by rw [show L_D_sameSigns_2 (n + 1) S v1 = 1 from by rw [L_D_sameSigns_2, if_pos c_6]] at hq; exact hq)
    · refine z_aload_n C 10 d_D_sameSigns_9 rfl rfl ?_
      refine z_get C kf_D_16 0 (v := .ref (a 5)) 13 d_D_sameSigns_10 rfl rfl rfl ?_
      refine z_iload_n C 14 d_D_sameSigns_13 rfl rfl ?_
      refine z_go_ours_ro C (z_V C kc_D_62 (c_K_sign G l (fun i => a (i + 5)) (sD_ours S) v1) (st := []) 0 0 rfl rfl rfl rfl (Nat.le_of_ble_eq_true rfl) ⟨⟨Nat.le_of_ble_eq_true rfl, Nat.le_of_ble_eq_true rfl⟩, Nat.le_of_ble_eq_true rfl, Nat.le_of_ble_eq_true rfl⟩ d_D_sameSigns_14) [.int (F_K_sign (sD_ours S) v1)] 17 rfl rfl ?_
      refine z_aload_n C 18 d_D_sameSigns_17 rfl rfl ?_
      refine z_get C kf_D_19 0 (v := .ref (a 9)) 21 d_D_sameSigns_18 rfl rfl rfl ?_
      refine z_iload_n C 22 d_D_sameSigns_21 rfl rfl ?_
      refine z_go_theirs_ro C (z_V C kc_D_62 (c_K_sign G l (fun i => a (i + 9)) (sD_theirs S) v1) (st := [.int (F_K_sign (sD_ours S) v1)]) 0 0 rfl rfl rfl rfl (Nat.le_of_ble_eq_true rfl) ⟨⟨Nat.le_of_ble_eq_true rfl, Nat.le_of_ble_eq_true rfl⟩, Nat.le_of_ble_eq_true rfl, Nat.le_of_ble_eq_true rfl⟩ d_D_sameSigns_22) [.int (F_K_sign (sD_theirs S) v1), .int (F_K_sign (sD_ours S) v1)] 25 rfl rfl ?_
      refine z_icmp_eq C 30 28 d_D_sameSigns_25 (by decide) rfl (fun c_25 => ?_) (fun c_25 => ?_)
      · refine z_iinc C (v1 + 1) [(1, .int (v1 + 1)), (0, .ref (a 0))] 33 d_D_sameSigns_30 rfl (by decide) rfl rfl rfl ?_
        refine z_goto C 2 d_D_sameSigns_33 (by decide) ?_
        refine z_lvs [1, 0] [(0, .ref (a 0)), (1, .int (v1 + 1))] rfl ?_
        exact ih S (v1 + 1) (zdec c_6 hmu) (by rw [show L_D_sameSigns_2 (n + 1) S v1 = (L_D_sameSigns_2 n S (v1 + 1)) from by rw [L_D_sameSigns_2, if_neg c_6, if_pos c_25]] at hq; exact hq)
      · refine z_iconst C 0 29 d_D_sameSigns_28 rfl (by decide) ?_
        exact z_zret C hlk rfl hr d_D_sameSigns_29 (by rw [show L_D_sameSigns_2 (n + 1) S v1 = 0 from by rw [L_D_sameSigns_2, if_neg c_6, if_neg c_25]] at hq; exact hq)
def F_D_sameSigns (S : SD)  : Int32 :=
  (L_D_sameSigns_2 ((Int32.toInt 147 - Int32.toInt 0).toNat + 1) S 0)
set_option maxRecDepth 100000 in
set_option maxHeartbeats 4000000 in
theorem c_D_sameSigns (G : zG) (l : Launch) (a : Nat → Nat) (S : SD)   : zM G l y_D_sameSigns b_D_sameSigns 2 (some .boolean) (zR 1 21) [.ref (a 0)] (wD G a S) (fun r1 w1 => r1 = some (.int (F_D_sameSigns S)) ∧ w1 = wD G a S) := by
  generalize hPost : (fun (r1 : Option Value) (w1 : va_W) => r1 = some (.int (F_D_sameSigns S)) ∧ w1 = wD G a S) = Post
  have hq : Post (some (.int (F_D_sameSigns S))) (wD G a S) := by rw [← hPost]; exact ⟨rfl, rfl⟩
  clear hPost
  refine zM_of (by decide) (Nat.le_of_ble_eq_true rfl) ?_
  intro p e s m args below meth c C hlk hr hin
  refine z_iconst C 0 1 d_D_sameSigns_0 rfl (by decide) ?_
  refine z_istore_n C [(1, .int 0), (0, .ref (a 0))] 2 d_D_sameSigns_1 rfl (by decide) rfl ?_
  refine z_lvs [1, 0] [(0, .ref (a 0)), (1, .int 0)] rfl ?_
  exact l_D_sameSigns_2 G l a C hlk hr _ S 0 (Nat.lt_succ_self _) (by rw [show F_D_sameSigns S = (L_D_sameSigns_2 ((Int32.toInt 147 - Int32.toInt 0).toNat + 1) S 0) from by rw [F_D_sameSigns]] at hq; exact hq)

def L_D_sameParts_10 (κ : SD → Int32 → Int32) : Nat → SD → Int32 → Int32 → Int32
  | 0, S, v1, v2 => 0
  | n + 1, S, v1, v2 =>
    if 3 ≤ v2 then
      (κ S v1)
    else
      if (F_K_number (sD_ours S) v1 v2) = (F_K_number (sD_theirs S) v1 v2) then
        (L_D_sameParts_10 κ n S v1 (v2 + 1))
      else
        0
set_option maxRecDepth 100000 in
set_option maxHeartbeats 4000000 in
theorem l_D_sameParts_10 (G : zG) (l : Launch) (a : Nat → Nat) {y1 : Int32} {p : Program} {e : Env} {s : State} {m : MethodId} {args : Array Value} {below : List Frame} {meth : Method} {c : Code} {w0 : va_W} {Post : Option Value → va_W → Prop} (C : zC p s m args meth c b_D_sameParts 3 N_D G (va_A w0 s.heap.size)) (hlk : meth.locks = false) (hr : meth.sig.returnType = some .boolean) (κ : SD → Int32 → Int32) (hk : ∀ (S9 : SD) (u1 : Int32), (u1 = y1) → Post (some (.int (κ S9 u1))) (wD G a S9) → zV p l e (zR 2 43) s m args below meth c 3 G (va_A w0 s.heap.size) (MQ below (zQ G w0 s.heap.size Post) args s 0 0 (va_A w0 s.heap.size)) 0 0 (wD G a S9) 44 [(0, .ref (a 0)), (1, .int u1)] []) :
    ∀ (n : Nat) (S : SD) (v1 : Int32) (v2 : Int32), (Int32.toInt 3 - Int32.toInt v2).toNat < n → (v1 = y1) → Post (some (.int (L_D_sameParts_10 κ n S v1 v2))) (wD G a S) → zV p l e (zR 2 43) s m args below meth c 3 G (va_A w0 s.heap.size) (MQ below (zQ G w0 s.heap.size Post) args s 0 0 (va_A w0 s.heap.size)) 0 0 (wD G a S) 10 [(0, .ref (a 0)), (1, .int v1), (2, .int v2)] [] := by
  intro n
  induction n with
  | zero => intro S v1 v2 h; exact absurd h (Nat.not_lt_zero _)
  | succ n ih =>
    intro S v1 v2 hmu hpre hq
    refine z_iload_n C 11 d_D_sameParts_10 rfl rfl ?_
    refine z_iconst C 3 12 d_D_sameParts_11 rfl (by decide) ?_
    refine z_icmp_ge C 44 15 d_D_sameParts_12 (by decide) rfl (fun c_12 => ?_) (fun c_12 => ?_)
    · refine z_lvs [0, 1] [(0, .ref (a 0)), (1, .int v1)] rfl ?_
      exact hk S v1 hpre (by rw [show L_D_sameParts_10 κ (n + 1) S v1 v2 = (κ S v1) from by rw [L_D_sameParts_10, if_pos c_12]] at hq; exact hq)
    · refine z_aload_n C 16 d_D_sameParts_15 rfl rfl ?_
      refine z_get C kf_D_16 0 (v := .ref (a 5)) 19 d_D_sameParts_16 rfl rfl rfl ?_
      refine z_iload_n C 20 d_D_sameParts_19 rfl rfl ?_
      refine z_iload_n C 21 d_D_sameParts_20 rfl rfl ?_
      refine z_go_ours_ro C (z_V C kc_D_58 (c_K_number G l (fun i => a (i + 5)) (sD_ours S) v1 v2) (st := []) 0 0 rfl rfl rfl rfl (Nat.le_of_ble_eq_true rfl) ⟨⟨Nat.le_of_ble_eq_true rfl, Nat.le_of_ble_eq_true rfl⟩, Nat.le_of_ble_eq_true rfl, Nat.le_of_ble_eq_true rfl⟩ d_D_sameParts_21) [.int (F_K_number (sD_ours S) v1 v2)] 24 rfl rfl ?_
      refine z_aload_n C 25 d_D_sameParts_24 rfl rfl ?_
      refine z_get C kf_D_19 0 (v := .ref (a 9)) 28 d_D_sameParts_25 rfl rfl rfl ?_
      refine z_iload_n C 29 d_D_sameParts_28 rfl rfl ?_
      refine z_iload_n C 30 d_D_sameParts_29 rfl rfl ?_
      refine z_go_theirs_ro C (z_V C kc_D_58 (c_K_number G l (fun i => a (i + 9)) (sD_theirs S) v1 v2) (st := [.int (F_K_number (sD_ours S) v1 v2)]) 0 0 rfl rfl rfl rfl (Nat.le_of_ble_eq_true rfl) ⟨⟨Nat.le_of_ble_eq_true rfl, Nat.le_of_ble_eq_true rfl⟩, Nat.le_of_ble_eq_true rfl, Nat.le_of_ble_eq_true rfl⟩ d_D_sameParts_30) [.int (F_K_number (sD_theirs S) v1 v2), .int (F_K_number (sD_ours S) v1 v2)] 33 rfl rfl ?_
      refine z_icmp_eq C 38 36 d_D_sameParts_33 (by decide) rfl (fun c_33 => ?_) (fun c_33 => ?_)
      · refine z_iinc C (v2 + 1) [(2, .int (v2 + 1)), (0, .ref (a 0)), (1, .int v1)] 41 d_D_sameParts_38 rfl (by decide) rfl rfl rfl ?_
        refine z_goto C 10 d_D_sameParts_41 (by decide) ?_
        refine z_lvs [1, 2, 0] [(0, .ref (a 0)), (1, .int v1), (2, .int (v2 + 1))] rfl ?_
        exact ih S v1 (v2 + 1) (zdec c_12 hmu) hpre (by rw [show L_D_sameParts_10 κ (n + 1) S v1 v2 = (L_D_sameParts_10 κ n S v1 (v2 + 1)) from by rw [L_D_sameParts_10, if_neg c_12, if_pos c_33]] at hq; exact hq)
      · refine z_iconst C 0 37 d_D_sameParts_36 rfl (by decide) ?_
        exact z_zret C hlk rfl hr d_D_sameParts_37 (by rw [show L_D_sameParts_10 κ (n + 1) S v1 v2 = 0 from by rw [L_D_sameParts_10, if_neg c_12, if_neg c_33]] at hq; exact hq)
def L_D_sameParts_2 : Nat → SD → Int32 → Int32
  | 0, S, v1 => 0
  | n + 1, S, v1 =>
    if 21 ≤ v1 then
      1
    else
      (L_D_sameParts_10 (fun S9 u1 =>
          (L_D_sameParts_2 n S9 (u1 + 1))) ((Int32.toInt 3 - Int32.toInt 0).toNat + 1) S v1 0)
set_option maxRecDepth 100000 in
set_option maxHeartbeats 4000000 in
theorem l_D_sameParts_2 (G : zG) (l : Launch) (a : Nat → Nat) {p : Program} {e : Env} {s : State} {m : MethodId} {args : Array Value} {below : List Frame} {meth : Method} {c : Code} {w0 : va_W} {Post : Option Value → va_W → Prop} (C : zC p s m args meth c b_D_sameParts 3 N_D G (va_A w0 s.heap.size)) (hlk : meth.locks = false) (hr : meth.sig.returnType = some .boolean) :
    ∀ (n : Nat) (S : SD) (v1 : Int32), (Int32.toInt 21 - Int32.toInt v1).toNat < n → Post (some (.int (L_D_sameParts_2 n S v1))) (wD G a S) → zV p l e (zR 2 43) s m args below meth c 3 G (va_A w0 s.heap.size) (MQ below (zQ G w0 s.heap.size Post) args s 0 0 (va_A w0 s.heap.size)) 0 0 (wD G a S) 2 [(0, .ref (a 0)), (1, .int v1)] [] := by
  intro n
  induction n with
  | zero => intro S v1 h; exact absurd h (Nat.not_lt_zero _)
  | succ n ih =>
    intro S v1 hmu hq
    refine z_iload_n C 3 d_D_sameParts_2 rfl rfl ?_
    refine z_bipush C 21 5 d_D_sameParts_3 rfl (by decide) ?_
    refine z_icmp_ge C 50 8 d_D_sameParts_5 (by decide) rfl (fun c_5 => ?_) (fun c_5 => ?_)
    · refine z_iconst C 1 51 d_D_sameParts_50 rfl (by decide) ?_
      exact z_zret C hlk rfl hr d_D_sameParts_51 (by rw [show L_D_sameParts_2 (n + 1) S v1 = 1 from by rw [L_D_sameParts_2, if_pos c_5]] at hq; exact hq)
    · refine z_iconst C 0 9 d_D_sameParts_8 rfl (by decide) ?_
      refine z_istore_n C [(2, .int 0), (0, .ref (a 0)), (1, .int v1)] 10 d_D_sameParts_9 rfl (by decide) rfl ?_
      refine z_lvs [1, 2, 0] [(0, .ref (a 0)), (1, .int v1), (2, .int 0)] rfl ?_
      refine l_D_sameParts_10 G l a C hlk hr (fun S9 u1 =>
          (L_D_sameParts_2 n S9 (u1 + 1))) (fun S9 u1 hx hq => ?_) _ S v1 0 (Nat.lt_succ_self _) rfl (by rw [show L_D_sameParts_2 (n + 1) S v1 = (L_D_sameParts_10 (fun S9 u1 =>
          (L_D_sameParts_2 n S9 (u1 + 1))) ((Int32.toInt 3 - Int32.toInt 0).toNat + 1) S v1 0) from by rw [L_D_sameParts_2, if_neg c_5]] at hq; exact hq)
      refine z_iinc C (u1 + 1) [(1, .int (u1 + 1)), (0, .ref (a 0))] 47 d_D_sameParts_44 rfl (by decide) rfl rfl rfl ?_
      refine z_goto C 2 d_D_sameParts_47 (by decide) ?_
      refine z_lvs [1, 0] [(0, .ref (a 0)), (1, .int (u1 + 1))] rfl ?_
      exact ih S9 (u1 + 1) (by subst hx; exact zdec c_5 hmu) (by (try dsimp only at hq); exact hq)
def F_D_sameParts (S : SD)  : Int32 :=
  (L_D_sameParts_2 ((Int32.toInt 21 - Int32.toInt 0).toNat + 1) S 0)
set_option maxRecDepth 100000 in
set_option maxHeartbeats 4000000 in
theorem c_D_sameParts (G : zG) (l : Launch) (a : Nat → Nat) (S : SD)   : zM G l y_D_sameParts b_D_sameParts 3 (some .boolean) (zR 2 43) [.ref (a 0)] (wD G a S) (fun r1 w1 => r1 = some (.int (F_D_sameParts S)) ∧ w1 = wD G a S) := by
  generalize hPost : (fun (r1 : Option Value) (w1 : va_W) => r1 = some (.int (F_D_sameParts S)) ∧ w1 = wD G a S) = Post
  have hq : Post (some (.int (F_D_sameParts S))) (wD G a S) := by rw [← hPost]; exact ⟨rfl, rfl⟩
  clear hPost
  refine zM_of (by decide) (Nat.le_of_ble_eq_true rfl) ?_
  intro p e s m args below meth c C hlk hr hin
  refine z_iconst C 0 1 d_D_sameParts_0 rfl (by decide) ?_
  refine z_istore_n C [(1, .int 0), (0, .ref (a 0))] 2 d_D_sameParts_1 rfl (by decide) rfl ?_
  refine z_lvs [1, 0] [(0, .ref (a 0)), (1, .int 0)] rfl ?_
  exact l_D_sameParts_2 G l a C hlk hr _ S 0 (Nat.lt_succ_self _) (by rw [show F_D_sameParts S = (L_D_sameParts_2 ((Int32.toInt 21 - Int32.toInt 0).toNat + 1) S 0) from by rw [F_D_sameParts]] at hq; exact hq)

def F_D_same (S : SD) (x1 : Int64) (x3 : Int32) (x4 : Int32) : Int32 × SD :=
  if (F_D_canBeDrawn x3 x4) = 0 then
    (0, S)
  else
    if (F_D_sameParts (uD_theirs (uD_ours S (F_K_fill (sD_ours S) (sD_seed S) x3 x4)) (F_K_fill (sD_theirs S) x1 x3 x4))) = 0 then
      (0, (uD_theirs (uD_ours S (F_K_fill (sD_ours S) (sD_seed S) x3 x4)) (F_K_fill (sD_theirs S) x1 x3 x4)))
    else
      if (F_D_sameSigns (uD_theirs (uD_ours S (F_K_fill (sD_ours S) (sD_seed S) x3 x4)) (F_K_fill (sD_theirs S) x1 x3 x4))) = 0 then
        (0, (uD_theirs (uD_ours S (F_K_fill (sD_ours S) (sD_seed S) x3 x4)) (F_K_fill (sD_theirs S) x1 x3 x4)))
      else
        (1, (uD_theirs (uD_ours S (F_K_fill (sD_ours S) (sD_seed S) x3 x4)) (F_K_fill (sD_theirs S) x1 x3 x4)))
set_option maxRecDepth 100000 in
set_option maxHeartbeats 4000000 in
theorem c_D_same (G : zG) (l : Launch) (a : Nat → Nat) (S : SD) (x1 : Int64) (x3 : Int32) (x4 : Int32)  : zM G l y_D_same b_D_same 5 (some .boolean) (zR 6 139) [.ref (a 0), .long x1, .int x3, .int x4] (wD G a S) (fun r1 w1 => r1 = some (.int (F_D_same S x1 x3 x4).1) ∧ w1 = wD G a (F_D_same S x1 x3 x4).2) := by
  generalize hPost : (fun (r1 : Option Value) (w1 : va_W) => r1 = some (.int (F_D_same S x1 x3 x4).1) ∧ w1 = wD G a (F_D_same S x1 x3 x4).2) = Post
  have hq : Post (some (.int (F_D_same S x1 x3 x4).1)) (wD G a (F_D_same S x1 x3 x4).2) := by rw [← hPost]; exact ⟨rfl, rfl⟩
  clear hPost
  refine zM_of (by decide) (Nat.le_of_ble_eq_true rfl) ?_
  intro p e s m args below meth c C hlk hr hin
  refine z_iload_n C 1 d_D_same_0 rfl rfl ?_
  refine z_iload C 3 d_D_same_1 rfl rfl ?_
  refine z_go0 C (z_S C kc_D_40 (c_D_canBeDrawn G l x3 x4) (st := []) rfl rfl (Nat.le_of_ble_eq_true rfl) ⟨⟨Nat.le_of_ble_eq_true rfl, Nat.le_of_ble_eq_true rfl⟩, Nat.le_of_ble_eq_true rfl, Nat.le_of_ble_eq_true rfl⟩ d_D_same_3) [0, 1, 2, 3, 4, 5, 6, 7, 8, 9, 10, 11, 12, 13, 14, 15, 16] [.int (F_D_canBeDrawn x3 x4)] 6 rfl rfl rfl rfl ?_
  refine z_if_ne C 11 9 d_D_same_6 (by decide) rfl (fun c_6 => ?_) (fun c_6 => ?_)
  · refine z_aload_n C 12 d_D_same_11 rfl rfl ?_
    refine z_get C kf_D_16 0 (v := .ref (a 5)) 15 d_D_same_12 rfl rfl rfl ?_
    refine z_aload_n C 16 d_D_same_15 rfl rfl ?_
    refine z_get C kf_D_36 0 (v := .long (sD_seed S)) 19 d_D_same_16 rfl rfl rfl ?_
    refine z_iload_n C 20 d_D_same_19 rfl rfl ?_
    refine z_iload C 22 d_D_same_20 rfl rfl ?_
    refine z_go_ours C (z_V C kc_D_44 (c_K_fill G l (fun i => a (i + 5)) (sD_ours S) (sD_seed S) x3 x4) (st := []) 0 0 rfl rfl rfl rfl (Nat.le_of_ble_eq_true rfl) ⟨⟨Nat.le_of_ble_eq_true rfl, Nat.le_of_ble_eq_true rfl⟩, Nat.le_of_ble_eq_true rfl, Nat.le_of_ble_eq_true rfl⟩ d_D_same_22) [] 25 rfl rfl ?_
    refine z_aload_n C 26 d_D_same_25 rfl rfl ?_
    refine z_get C kf_D_19 0 (v := .ref (a 9)) 29 d_D_same_26 rfl rfl rfl ?_
    refine z_lload_n C 30 d_D_same_29 rfl rfl ?_
    refine z_iload_n C 31 d_D_same_30 rfl rfl ?_
    refine z_iload C 33 d_D_same_31 rfl rfl ?_
    refine z_go_theirs C (z_V C kc_D_44 (c_K_fill G l (fun i => a (i + 9)) (sD_theirs S) x1 x3 x4) (st := []) 0 0 rfl rfl rfl rfl (Nat.le_of_ble_eq_true rfl) ⟨⟨Nat.le_of_ble_eq_true rfl, Nat.le_of_ble_eq_true rfl⟩, Nat.le_of_ble_eq_true rfl, Nat.le_of_ble_eq_true rfl⟩ d_D_same_33) [] 36 rfl rfl ?_
    refine z_aload_n C 37 d_D_same_36 rfl rfl ?_
    refine z_goA C (z_V C kc_D_100 (c_D_sameParts G l a (uD_theirs (uD_ours S (F_K_fill (sD_ours S) (sD_seed S) x3 x4)) (F_K_fill (sD_theirs S) x1 x3 x4))) (st := []) 0 2 rfl rfl rfl rfl (Nat.le_of_ble_eq_true rfl) ⟨⟨Nat.le_of_ble_eq_true rfl, Nat.le_of_ble_eq_true rfl⟩, Nat.le_of_ble_eq_true rfl, Nat.le_of_ble_eq_true rfl⟩ d_D_same_37) [.int (F_D_sameParts (uD_theirs (uD_ours S (F_K_fill (sD_ours S) (sD_seed S) x3 x4)) (F_K_fill (sD_theirs S) x1 x3 x4)))] 40 rfl rfl ?_
    refine z_if_eq C 54 43 d_D_same_40 (by decide) rfl (fun c_40 => ?_) (fun c_40 => ?_)
    · refine z_iconst C 0 55 d_D_same_54 rfl (by decide) ?_
      exact z_zret C hlk rfl hr d_D_same_55 (by rw [show F_D_same S x1 x3 x4 = (0, (uD_theirs (uD_ours S (F_K_fill (sD_ours S) (sD_seed S) x3 x4)) (F_K_fill (sD_theirs S) x1 x3 x4))) from by rw [F_D_same, if_neg c_6, if_pos c_40]] at hq; exact hq)
    · refine z_aload_n C 44 d_D_same_43 rfl rfl ?_
      refine z_goA C (z_V C kc_D_104 (c_D_sameSigns G l a (uD_theirs (uD_ours S (F_K_fill (sD_ours S) (sD_seed S) x3 x4)) (F_K_fill (sD_theirs S) x1 x3 x4))) (st := []) 0 2 rfl rfl rfl rfl (Nat.le_of_ble_eq_true rfl) ⟨⟨Nat.le_of_ble_eq_true rfl, Nat.le_of_ble_eq_true rfl⟩, Nat.le_of_ble_eq_true rfl, Nat.le_of_ble_eq_true rfl⟩ d_D_same_44) [.int (F_D_sameSigns (uD_theirs (uD_ours S (F_K_fill (sD_ours S) (sD_seed S) x3 x4)) (F_K_fill (sD_theirs S) x1 x3 x4)))] 47 rfl rfl ?_
      refine z_if_eq C 54 50 d_D_same_47 (by decide) rfl (fun c_47 => ?_) (fun c_47 => ?_)
      · refine z_iconst C 0 55 d_D_same_54 rfl (by decide) ?_
        exact z_zret C hlk rfl hr d_D_same_55 (by rw [show F_D_same S x1 x3 x4 = (0, (uD_theirs (uD_ours S (F_K_fill (sD_ours S) (sD_seed S) x3 x4)) (F_K_fill (sD_theirs S) x1 x3 x4))) from by rw [F_D_same, if_neg c_6, if_neg c_40, if_pos c_47]] at hq; exact hq)
      · refine z_iconst C 1 51 d_D_same_50 rfl (by decide) ?_
        refine z_goto C 55 d_D_same_51 (by decide) ?_
        exact z_zret C hlk rfl hr d_D_same_55 (by rw [show F_D_same S x1 x3 x4 = (1, (uD_theirs (uD_ours S (F_K_fill (sD_ours S) (sD_seed S) x3 x4)) (F_K_fill (sD_theirs S) x1 x3 x4))) from by rw [F_D_same, if_neg c_6, if_neg c_40, if_neg c_47]] at hq; exact hq)
  · refine z_iconst C 0 10 d_D_same_9 rfl (by decide) ?_
    exact z_zret C hlk rfl hr d_D_same_10 (by rw [show F_D_same S x1 x3 x4 = (0, S) from by rw [F_D_same, if_pos c_6]] at hq; exact hq)
