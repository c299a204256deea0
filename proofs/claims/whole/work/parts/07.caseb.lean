def L_K_repeatTitle_18 : Nat → SK → Int32 → Int32 → Int32 → SK
  | 0, S, v1, v2, v3 => S
  | n + 1, S, v1, v2, v3 =>
    if v2 ≤ v3 then
      S
    else
      (L_K_repeatTitle_18 n (F_K_addSign S (F_K_sign S (((sK_titleStarts S) (Int32.toNatClampNeg v1)) + v3))) v1 v2 (v3 + 1))
set_option maxRecDepth 100000 in
set_option maxHeartbeats 4000000 in
theorem l_K_repeatTitle_18 (G : zG) (l : Launch) (a : Nat → Nat) {p : Program} {e : Env} {s : State} {m : MethodId} {args : Array Value} {below : List Frame} {meth : Method} {c : Code} {w0 : va_W} {Post : Option Value → va_W → Prop} (C : zC p s m args meth c b_K_repeatTitle 4 N_K G (va_A w0 s.heap.size)) (hlk : meth.locks = false) (hr : meth.sig.returnType = none) :
    ∀ (n : Nat) (S : SK) (v1 : Int32) (v2 : Int32) (v3 : Int32), (Int32.toInt v2 - Int32.toInt v3).toNat < n → (vp_in v1 21) → Post (none) (wK G a (L_K_repeatTitle_18 n S v1 v2 v3)) → zV p l e (zR 2 43) s m args below meth c 4 G (va_A w0 s.heap.size) (MQ below (zQ G w0 s.heap.size Post) args s 0 0 (va_A w0 s.heap.size)) 0 0 (wK G a S) 18 [(0, .ref (a 0)), (1, .int v1), (2, .int v2), (3, .int v3)] [] := by
  intro n
  induction n with
  | zero => intro S v1 v2 v3 h; exact absurd h (Nat.not_lt_zero _)
  | succ n ih =>
    intro S v1 v2 v3 hmu hpre hq
    refine z_iload_n C 19 d_K_repeatTitle_18 rfl rfl ?_
    refine z_iload_n C 20 d_K_repeatTitle_19 rfl rfl ?_
    refine z_icmp_ge C 45 23 d_K_repeatTitle_20 (by decide) rfl (fun c_20 => ?_) (fun c_20 => ?_)
    · exact z_vret C hlk hr d_K_repeatTitle_45 (by rw [show L_K_repeatTitle_18 (n + 1) S v1 v2 v3 = S from by rw [L_K_repeatTitle_18, if_pos c_20]] at hq; exact hq)
    · refine z_aload_n C 24 d_K_repeatTitle_23 rfl rfl ?_
      refine z_aload_n C 25 d_K_repeatTitle_24 rfl rfl ?_
      refine z_aload_n C 26 d_K_repeatTitle_25 rfl rfl ?_
      refine z_get C kf_K_18 0 (v := .ref (a 3)) 29 d_K_repeatTitle_26 rfl rfl rfl ?_
      refine z_iload_n C 30 d_K_repeatTitle_29 rfl rfl ?_
      refine z_iald C 3 0 (f := (sK_titleStarts S)) 31 d_K_repeatTitle_30 rfl rfl rfl hpre ?_
      refine z_iload_n C 32 d_K_repeatTitle_31 rfl rfl ?_
      refine z_iadd C 33 d_K_repeatTitle_32 rfl ?_
      refine z_goA C (z_V C kc_K_90 (c_K_sign G l a S (((sK_titleStarts S) (Int32.toNatClampNeg v1)) + v3)) (st := [.ref (a 0)]) 0 0 rfl rfl rfl rfl (Nat.le_of_ble_eq_true rfl) ⟨⟨Nat.le_of_ble_eq_true rfl, Nat.le_of_ble_eq_true rfl⟩, Nat.le_of_ble_eq_true rfl, Nat.le_of_ble_eq_true rfl⟩ d_K_repeatTitle_33) [.int (F_K_sign S (((sK_titleStarts S) (Int32.toNatClampNeg v1)) + v3)), .ref (a 0)] 36 rfl rfl ?_
      refine z_goA C (z_V C kc_K_80 (c_K_addSign G l a S (F_K_sign S (((sK_titleStarts S) (Int32.toNatClampNeg v1)) + v3))) (st := []) 0 0 rfl rfl rfl rfl (Nat.le_of_ble_eq_true rfl) ⟨⟨Nat.le_of_ble_eq_true rfl, Nat.le_of_ble_eq_true rfl⟩, Nat.le_of_ble_eq_true rfl, Nat.le_of_ble_eq_true rfl⟩ d_K_repeatTitle_36) [] 39 rfl rfl ?_
      refine z_iinc C (v3 + 1) [(3, .int (v3 + 1)), (0, .ref (a 0)), (1, .int v1), (2, .int v2)] 42 d_K_repeatTitle_39 rfl (by decide) rfl rfl rfl ?_
      refine z_goto C 18 d_K_repeatTitle_42 (by decide) ?_
      refine z_lvs [1, 2, 3, 0] [(0, .ref (a 0)), (1, .int v1), (2, .int v2), (3, .int (v3 + 1))] rfl ?_
      exact ih (F_K_addSign S (F_K_sign S (((sK_titleStarts S) (Int32.toNatClampNeg v1)) + v3))) v1 v2 (v3 + 1) (zdec c_20 hmu) hpre (by rw [show L_K_repeatTitle_18 (n + 1) S v1 v2 v3 = (L_K_repeatTitle_18 n (F_K_addSign S (F_K_sign S (((sK_titleStarts S) (Int32.toNatClampNeg v1)) + v3))) v1 v2 (v3 + 1)) from by rw [L_K_repeatTitle_18, if_neg c_20]] at hq; exact hq)
def F_K_repeatTitle (S : SK) (x1 : Int32) : SK :=
  if (F_K_has S x1) = 0 then
    S
  else
    (L_K_repeatTitle_18 ((Int32.toInt (F_K_number S x1 0) - Int32.toInt 0).toNat + 1) S x1 (F_K_number S x1 0) 0)
set_option maxRecDepth 100000 in
set_option maxHeartbeats 4000000 in
theorem c_K_repeatTitle (G : zG) (l : Launch) (a : Nat → Nat) (S : SK) (x1 : Int32)  : zM G l y_K_repeatTitle b_K_repeatTitle 4 (none) (zR 2 43) [.ref (a 0), .int x1] (wK G a S) (fun r1 w1 => r1 = none ∧ w1 = wK G a (F_K_repeatTitle S x1)) := by
  generalize hPost : (fun (r1 : Option Value) (w1 : va_W) => r1 = none ∧ w1 = wK G a (F_K_repeatTitle S x1)) = Post
  have hq : Post (none) (wK G a (F_K_repeatTitle S x1)) := by rw [← hPost]; exact ⟨rfl, rfl⟩
  clear hPost
  refine zM_of (by decide) (Nat.le_of_ble_eq_true rfl) ?_
  intro p e s m args below meth c C hlk hr hin
  refine z_aload_n C 1 d_K_repeatTitle_0 rfl rfl ?_
  refine z_iload_n C 2 d_K_repeatTitle_1 rfl rfl ?_
  refine z_goA C (z_V C kc_K_35 (c_K_has G l a S x1) (st := []) 0 0 rfl rfl rfl rfl (Nat.le_of_ble_eq_true rfl) ⟨⟨Nat.le_of_ble_eq_true rfl, Nat.le_of_ble_eq_true rfl⟩, Nat.le_of_ble_eq_true rfl, Nat.le_of_ble_eq_true rfl⟩ d_K_repeatTitle_2) [.int (F_K_has S x1)] 5 rfl rfl ?_
  refine z_if_ne C 9 8 d_K_repeatTitle_5 (by decide) rfl (fun c_5 => ?_) (fun c_5 => ?_)
  · refine z_aload_n C 10 d_K_repeatTitle_9 rfl rfl ?_
    refine z_iload_n C 11 d_K_repeatTitle_10 rfl rfl ?_
    refine z_iconst C 0 12 d_K_repeatTitle_11 rfl (by decide) ?_
    refine z_goA C (z_V C kc_K_83 (c_K_number G l a S x1 0) (st := []) 0 0 rfl rfl rfl rfl (Nat.le_of_ble_eq_true rfl) ⟨⟨Nat.le_of_ble_eq_true rfl, Nat.le_of_ble_eq_true rfl⟩, Nat.le_of_ble_eq_true rfl, Nat.le_of_ble_eq_true rfl⟩ d_K_repeatTitle_12) [.int (F_K_number S x1 0)] 15 rfl rfl ?_
    refine z_istore_n C [(2, .int (F_K_number S x1 0)), (0, .ref (a 0)), (1, .int x1)] 16 d_K_repeatTitle_15 rfl (by decide) rfl ?_
    refine z_iconst C 0 17 d_K_repeatTitle_16 rfl (by decide) ?_
    refine z_istore_n C [(3, .int 0), (2, .int (F_K_number S x1 0)), (0, .ref (a 0)), (1, .int x1)] 18 d_K_repeatTitle_17 rfl (by decide) rfl ?_
    refine z_lvs [2, 3, 1, 0] [(0, .ref (a 0)), (1, .int x1), (2, .int (F_K_number S x1 0)), (3, .int 0)] rfl ?_
    exact l_K_repeatTitle_18 G l a C hlk hr _ S x1 (F_K_number S x1 0) 0 (Nat.lt_succ_self _) (kx_has1 c_5) (by rw [show F_K_repeatTitle S x1 = (L_K_repeatTitle_18 ((Int32.toInt (F_K_number S x1 0) - Int32.toInt 0).toNat + 1) S x1 (F_K_number S x1 0) 0) from by rw [F_K_repeatTitle, if_neg c_5]] at hq; exact hq)
  · exact z_vret C hlk hr d_K_repeatTitle_8 (by rw [show F_K_repeatTitle S x1 = S from by rw [F_K_repeatTitle, if_pos c_5]] at hq; exact hq)

def L_K_fillRecord_76 : Nat → SK → Int32 → Int32 → SK
  | 0, S, v3, v5 => S
  | n + 1, S, v3, v5 =>
    if v3 ≤ v5 then
      (F_K_addSign S 10)
    else
      (L_K_fillRecord_76 n (F_K_addSign (F_K_next S 26).2 (97 + (F_K_next S 26).1)) v3 (v5 + 1))
set_option maxRecDepth 100000 in
set_option maxHeartbeats 4000000 in
theorem l_K_fillRecord_76 (G : zG) (l : Launch) (a : Nat → Nat) {p : Program} {e : Env} {s : State} {m : MethodId} {args : Array Value} {below : List Frame} {meth : Method} {c : Code} {w0 : va_W} {Post : Option Value → va_W → Prop} (C : zC p s m args meth c b_K_fillRecord 6 N_K G (va_A w0 s.heap.size)) (hlk : meth.locks = false) (hr : meth.sig.returnType = none) :
    ∀ (n : Nat) (S : SK) (v3 : Int32) (v5 : Int32), (Int32.toInt v3 - Int32.toInt v5).toNat < n → Post (none) (wK G a (L_K_fillRecord_76 n S v3 v5)) → zV p l e (zR 3 66) s m args below meth c 6 G (va_A w0 s.heap.size) (MQ below (zQ G w0 s.heap.size Post) args s 0 0 (va_A w0 s.heap.size)) 0 0 (wK G a S) 76 [(0, .ref (a 0)), (3, .int v3), (5, .int v5)] [] := by
  intro n
  induction n with
  | zero => intro S v3 v5 h; exact absurd h (Nat.not_lt_zero _)
  | succ n ih =>
    intro S v3 v5 hmu hq
    refine z_iload C 78 d_K_fillRecord_76 rfl rfl ?_
    refine z_iload_n C 79 d_K_fillRecord_78 rfl rfl ?_
    refine z_icmp_ge C 101 82 d_K_fillRecord_79 (by decide) rfl (fun c_79 => ?_) (fun c_79 => ?_)
    · refine z_goto C 127 d_K_fillRecord_101 (by decide) ?_
      refine z_aload_n C 128 d_K_fillRecord_127 rfl rfl ?_
      refine z_bipush C 10 130 d_K_fillRecord_128 rfl (by decide) ?_
      refine z_goA C (z_V C kc_K_80 (c_K_addSign G l a S 10) (st := []) 0 0 rfl rfl rfl rfl (Nat.le_of_ble_eq_true rfl) ⟨⟨Nat.le_of_ble_eq_true rfl, Nat.le_of_ble_eq_true rfl⟩, Nat.le_of_ble_eq_true rfl, Nat.le_of_ble_eq_true rfl⟩ d_K_fillRecord_130) [] 133 rfl rfl ?_
      exact z_vret C hlk hr d_K_fillRecord_133 (by rw [show L_K_fillRecord_76 (n + 1) S v3 v5 = (F_K_addSign S 10) from by rw [L_K_fillRecord_76, if_pos c_79]] at hq; exact hq)
    · refine z_aload_n C 83 d_K_fillRecord_82 rfl rfl ?_
      refine z_bipush C 97 85 d_K_fillRecord_83 rfl (by decide) ?_
      refine z_aload_n C 86 d_K_fillRecord_85 rfl rfl ?_
      refine z_bipush C 26 88 d_K_fillRecord_86 rfl (by decide) ?_
      refine z_goA C (z_V C kc_K_72 (c_K_next G l a S 26) (st := [.int 97, .ref (a 0)]) 0 0 rfl rfl rfl rfl (Nat.le_of_ble_eq_true rfl) ⟨⟨Nat.le_of_ble_eq_true rfl, Nat.le_of_ble_eq_true rfl⟩, Nat.le_of_ble_eq_true rfl, Nat.le_of_ble_eq_true rfl⟩ d_K_fillRecord_88) [.int (F_K_next S 26).1, .int 97, .ref (a 0)] 91 rfl rfl ?_
      refine z_iadd C 92 d_K_fillRecord_91 rfl ?_
      refine z_goA C (z_V C kc_K_80 (c_K_addSign G l a (F_K_next S 26).2 (97 + (F_K_next S 26).1)) (st := []) 0 0 rfl rfl rfl rfl (Nat.le_of_ble_eq_true rfl) ⟨⟨Nat.le_of_ble_eq_true rfl, Nat.le_of_ble_eq_true rfl⟩, Nat.le_of_ble_eq_true rfl, Nat.le_of_ble_eq_true rfl⟩ d_K_fillRecord_92) [] 95 rfl rfl ?_
      refine z_iinc C (v5 + 1) [(5, .int (v5 + 1)), (0, .ref (a 0)), (3, .int v3)] 98 d_K_fillRecord_95 rfl (by decide) rfl rfl rfl ?_
      refine z_goto C 76 d_K_fillRecord_98 (by decide) ?_
      refine z_lvs [1, 2, 0] [(0, .ref (a 0)), (3, .int v3), (5, .int (v5 + 1))] rfl ?_
      exact ih (F_K_addSign (F_K_next S 26).2 (97 + (F_K_next S 26).1)) v3 (v5 + 1) (zdec c_79 hmu) (by rw [show L_K_fillRecord_76 (n + 1) S v3 v5 = (L_K_fillRecord_76 n (F_K_addSign (F_K_next S 26).2 (97 + (F_K_next S 26).1)) v3 (v5 + 1)) from by rw [L_K_fillRecord_76, if_neg c_79]] at hq; exact hq)
def F_K_fillRecord (S : SK) (x1 : Int32) : SK :=
  if x1 ≤ 0 then
    if (F_K_next (F_K_next (F_K_startTitle S x1) 7).2 8).1 = 0 then
      (L_K_fillRecord_76 ((Int32.toInt (F_K_next (F_K_startTitle S x1) 7).1 - Int32.toInt 0).toNat + 1) (F_K_put (F_K_next (F_K_next (F_K_startTitle S x1) 7).2 8).2 x1 (F_K_next (F_K_startTitle S x1) 7).1 0 (-1)) (F_K_next (F_K_startTitle S x1) 7).1 0)
    else
      (L_K_fillRecord_76 ((Int32.toInt (F_K_next (F_K_startTitle S x1) 7).1 - Int32.toInt 0).toNat + 1) (F_K_put (F_K_next (F_K_next (F_K_next (F_K_startTitle S x1) 7).2 8).2 120).2 x1 (F_K_next (F_K_startTitle S x1) 7).1 (1900 + (F_K_next (F_K_next (F_K_next (F_K_startTitle S x1) 7).2 8).2 120).1) (-1)) (F_K_next (F_K_startTitle S x1) 7).1 0)
  else
    if (F_K_next (F_K_startTitle S x1) 5).1 = 0 then
      if (F_K_next (F_K_next (F_K_startTitle S x1) 5).2 x1).1 = (-1) then
        if (F_K_next (F_K_next (F_K_next (F_K_next (F_K_startTitle S x1) 5).2 x1).2 7).2 8).1 = 0 then
          (L_K_fillRecord_76 ((Int32.toInt (F_K_next (F_K_next (F_K_next (F_K_startTitle S x1) 5).2 x1).2 7).1 - Int32.toInt 0).toNat + 1) (F_K_put (F_K_next (F_K_next (F_K_next (F_K_next (F_K_startTitle S x1) 5).2 x1).2 7).2 8).2 x1 (F_K_next (F_K_next (F_K_next (F_K_startTitle S x1) 5).2 x1).2 7).1 0 (-1)) (F_K_next (F_K_next (F_K_next (F_K_startTitle S x1) 5).2 x1).2 7).1 0)
        else
          (L_K_fillRecord_76 ((Int32.toInt (F_K_next (F_K_next (F_K_next (F_K_startTitle S x1) 5).2 x1).2 7).1 - Int32.toInt 0).toNat + 1) (F_K_put (F_K_next (F_K_next (F_K_next (F_K_next (F_K_next (F_K_startTitle S x1) 5).2 x1).2 7).2 8).2 120).2 x1 (F_K_next (F_K_next (F_K_next (F_K_startTitle S x1) 5).2 x1).2 7).1 (1900 + (F_K_next (F_K_next (F_K_next (F_K_next (F_K_next (F_K_startTitle S x1) 5).2 x1).2 7).2 8).2 120).1) (-1)) (F_K_next (F_K_next (F_K_next (F_K_startTitle S x1) 5).2 x1).2 7).1 0)
      else
        (F_K_addSign (F_K_repeatTitle (F_K_put (F_K_next (F_K_next (F_K_startTitle S x1) 5).2 x1).2 x1 (F_K_number (F_K_next (F_K_next (F_K_startTitle S x1) 5).2 x1).2 (F_K_next (F_K_next (F_K_startTitle S x1) 5).2 x1).1 0) (F_K_number (F_K_next (F_K_next (F_K_startTitle S x1) 5).2 x1).2 (F_K_next (F_K_next (F_K_startTitle S x1) 5).2 x1).1 1) (F_K_next (F_K_next (F_K_startTitle S x1) 5).2 x1).1) (F_K_next (F_K_next (F_K_startTitle S x1) 5).2 x1).1) 10)
    else
      if (F_K_next (F_K_next (F_K_next (F_K_startTitle S x1) 5).2 7).2 8).1 = 0 then
        (L_K_fillRecord_76 ((Int32.toInt (F_K_next (F_K_next (F_K_startTitle S x1) 5).2 7).1 - Int32.toInt 0).toNat + 1) (F_K_put (F_K_next (F_K_next (F_K_next (F_K_startTitle S x1) 5).2 7).2 8).2 x1 (F_K_next (F_K_next (F_K_startTitle S x1) 5).2 7).1 0 (-1)) (F_K_next (F_K_next (F_K_startTitle S x1) 5).2 7).1 0)
      else
        (L_K_fillRecord_76 ((Int32.toInt (F_K_next (F_K_next (F_K_startTitle S x1) 5).2 7).1 - Int32.toInt 0).toNat + 1) (F_K_put (F_K_next (F_K_next (F_K_next (F_K_next (F_K_startTitle S x1) 5).2 7).2 8).2 120).2 x1 (F_K_next (F_K_next (F_K_startTitle S x1) 5).2 7).1 (1900 + (F_K_next (F_K_next (F_K_next (F_K_next (F_K_startTitle S x1) 5).2 7).2 8).2 120).1) (-1)) (F_K_next (F_K_next (F_K_startTitle S x1) 5).2 7).1 0)
set_option maxRecDepth 100000 in
set_option maxHeartbeats 4000000 in
theorem c_K_fillRecord (G : zG) (l : Launch) (a : Nat → Nat) (S : SK) (x1 : Int32)  : zM G l y_K_fillRecord b_K_fillRecord 6 (none) (zR 3 66) [.ref (a 0), .int x1] (wK G a S) (fun r1 w1 => r1 = none ∧ w1 = wK G a (F_K_fillRecord S x1)) := by
  generalize hPost : (fun (r1 : Option Value) (w1 : va_W) => r1 = none ∧ w1 = wK G a (F_K_fillRecord S x1)) = Post
  have hq : Post (none) (wK G a (F_K_fillRecord S x1)) := by rw [← hPost]; exact ⟨rfl, rfl⟩
  clear hPost
  refine zM_of (by decide) (Nat.le_of_ble_eq_true rfl) ?_
  intro p e s m args below meth c C hlk hr hin
  refine z_aload_n C 1 d_K_fillRecord_0 rfl rfl ?_
  refine z_iload_n C 2 d_K_fillRecord_1 rfl rfl ?_
  refine z_goA C (z_V C kc_K_69 (c_K_startTitle G l a S x1) (st := []) 0 0 rfl rfl rfl rfl (Nat.le_of_ble_eq_true rfl) ⟨⟨Nat.le_of_ble_eq_true rfl, Nat.le_of_ble_eq_true rfl⟩, Nat.le_of_ble_eq_true rfl, Nat.le_of_ble_eq_true rfl⟩ d_K_fillRecord_2) [] 5 rfl rfl ?_
  refine z_iload_n C 6 d_K_fillRecord_5 rfl rfl ?_
  refine z_if_le C 25 9 d_K_fillRecord_6 (by decide) rfl (fun c_6 => ?_) (fun c_6 => ?_)
  · refine z_iconst C (-1) 26 d_K_fillRecord_25 rfl (by decide) ?_
    refine z_istore_n C [(2, .int (-1)), (0, .ref (a 0)), (1, .int x1)] 27 d_K_fillRecord_26 rfl (by decide) rfl ?_
    refine z_iload_n C 28 d_K_fillRecord_27 rfl rfl ?_
    refine z_iconst C (-1) 29 d_K_fillRecord_28 rfl (by decide) ?_
    refine z_icmp_ne C 104 32 d_K_fillRecord_29 (by decide) rfl (fun c_29 => ?_) (fun c_29 => ?_)
    · exact absurd c_29 (by decide)
    · refine z_aload_n C 33 d_K_fillRecord_32 rfl rfl ?_
      refine z_bipush C 7 35 d_K_fillRecord_33 rfl (by decide) ?_
      refine z_goA C (z_V C kc_K_72 (c_K_next G l a (F_K_startTitle S x1) 7) (st := []) 0 0 rfl rfl rfl rfl (Nat.le_of_ble_eq_true rfl) ⟨⟨Nat.le_of_ble_eq_true rfl, Nat.le_of_ble_eq_true rfl⟩, Nat.le_of_ble_eq_true rfl, Nat.le_of_ble_eq_true rfl⟩ d_K_fillRecord_35) [.int (F_K_next (F_K_startTitle S x1) 7).1] 38 rfl rfl ?_
      refine z_istore_n C [(3, .int (F_K_next (F_K_startTitle S x1) 7).1), (2, .int (-1)), (0, .ref (a 0)), (1, .int x1)] 39 d_K_fillRecord_38 rfl (by decide) rfl ?_
      refine z_aload_n C 40 d_K_fillRecord_39 rfl rfl ?_
      refine z_bipush C 8 42 d_K_fillRecord_40 rfl (by decide) ?_
      refine z_goA C (z_V C kc_K_72 (c_K_next G l a (F_K_next (F_K_startTitle S x1) 7).2 8) (st := []) 0 0 rfl rfl rfl rfl (Nat.le_of_ble_eq_true rfl) ⟨⟨Nat.le_of_ble_eq_true rfl, Nat.le_of_ble_eq_true rfl⟩, Nat.le_of_ble_eq_true rfl, Nat.le_of_ble_eq_true rfl⟩ d_K_fillRecord_42) [.int (F_K_next (F_K_next (F_K_startTitle S x1) 7).2 8).1] 45 rfl rfl ?_
      refine z_if_ne C 52 48 d_K_fillRecord_45 (by decide) rfl (fun c_45 => ?_) (fun c_45 => ?_)
      · refine z_sipush C 1900 55 d_K_fillRecord_52 rfl (by decide) ?_
        refine z_aload_n C 56 d_K_fillRecord_55 rfl rfl ?_
        refine z_bipush C 120 58 d_K_fillRecord_56 rfl (by decide) ?_
        refine z_goA C (z_V C kc_K_72 (c_K_next G l a (F_K_next (F_K_next (F_K_startTitle S x1) 7).2 8).2 120) (st := [.int 1900]) 0 0 rfl rfl rfl rfl (Nat.le_of_ble_eq_true rfl) ⟨⟨Nat.le_of_ble_eq_true rfl, Nat.le_of_ble_eq_true rfl⟩, Nat.le_of_ble_eq_true rfl, Nat.le_of_ble_eq_true rfl⟩ d_K_fillRecord_58) [.int (F_K_next (F_K_next (F_K_next (F_K_startTitle S x1) 7).2 8).2 120).1, .int 1900] 61 rfl rfl ?_
        refine z_iadd C 62 d_K_fillRecord_61 rfl ?_
        refine z_istore C [(4, .int (1900 + (F_K_next (F_K_next (F_K_next (F_K_startTitle S x1) 7).2 8).2 120).1)), (3, .int (F_K_next (F_K_startTitle S x1) 7).1), (2, .int (-1)), (0, .ref (a 0)), (1, .int x1)] 64 d_K_fillRecord_62 rfl (by decide) rfl ?_
        refine z_aload_n C 65 d_K_fillRecord_64 rfl rfl ?_
        refine z_iload_n C 66 d_K_fillRecord_65 rfl rfl ?_
        refine z_iload_n C 67 d_K_fillRecord_66 rfl rfl ?_
        refine z_iload C 69 d_K_fillRecord_67 rfl rfl ?_
        refine z_iconst C (-1) 70 d_K_fillRecord_69 rfl (by decide) ?_
        refine z_goA C (z_V C kc_K_76 (c_K_put G l a (F_K_next (F_K_next (F_K_next (F_K_startTitle S x1) 7).2 8).2 120).2 x1 (F_K_next (F_K_startTitle S x1) 7).1 (1900 + (F_K_next (F_K_next (F_K_next (F_K_startTitle S x1) 7).2 8).2 120).1) (-1)) (st := []) 0 0 rfl rfl rfl rfl (Nat.le_of_ble_eq_true rfl) ⟨⟨Nat.le_of_ble_eq_true rfl, Nat.le_of_ble_eq_true rfl⟩, Nat.le_of_ble_eq_true rfl, Nat.le_of_ble_eq_true rfl⟩ d_K_fillRecord_70) [] 73 rfl rfl ?_
        refine z_iconst C 0 74 d_K_fillRecord_73 rfl (by decide) ?_
        refine z_istore C [(5, .int 0), (4, .int (1900 + (F_K_next (F_K_next (F_K_next (F_K_startTitle S x1) 7).2 8).2 120).1)), (3, .int (F_K_next (F_K_startTitle S x1) 7).1), (2, .int (-1)), (0, .ref (a 0)), (1, .int x1)] 76 d_K_fillRecord_74 rfl (by decide) rfl ?_
        refine z_lvs [4, 2, 0] [(0, .ref (a 0)), (3, .int (F_K_next (F_K_startTitle S x1) 7).1), (5, .int 0)] rfl ?_
        exact l_K_fillRecord_76 G l a C hlk hr _ (F_K_put (F_K_next (F_K_next (F_K_next (F_K_startTitle S x1) 7).2 8).2 120).2 x1 (F_K_next (F_K_startTitle S x1) 7).1 (1900 + (F_K_next (F_K_next (F_K_next (F_K_startTitle S x1) 7).2 8).2 120).1) (-1)) (F_K_next (F_K_startTitle S x1) 7).1 0 (Nat.lt_succ_self _) (by rw [show F_K_fillRecord S x1 = (L_K_fillRecord_76 ((Int32.toInt (F_K_next (F_K_startTitle S x1) 7).1 - Int32.toInt 0).toNat + 1) (F_K_put (F_K_next (F_K_next (F_K_next (F_K_startTitle S x1) 7).2 8).2 120).2 x1 (F_K_next (F_K_startTitle S x1) 7).1 (1900 + (F_K_next (F_K_next (F_K_next (F_K_startTitle S x1) 7).2 8).2 120).1) (-1)) (F_K_next (F_K_startTitle S x1) 7).1 0) from by rw [F_K_fillRecord, if_pos c_6, if_neg c_45]] at hq; exact hq)
      · refine z_iconst C 0 49 d_K_fillRecord_48 rfl (by decide) ?_
        refine z_goto C 62 d_K_fillRecord_49 (by decide) ?_
        refine z_istore C [(4, .int 0), (3, .int (F_K_next (F_K_startTitle S x1) 7).1), (2, .int (-1)), (0, .ref (a 0)), (1, .int x1)] 64 d_K_fillRecord_62 rfl (by decide) rfl ?_
        refine z_aload_n C 65 d_K_fillRecord_64 rfl rfl ?_
        refine z_iload_n C 66 d_K_fillRecord_65 rfl rfl ?_
        refine z_iload_n C 67 d_K_fillRecord_66 rfl rfl ?_
        refine z_iload C 69 d_K_fillRecord_67 rfl rfl ?_
        refine z_iconst C (-1) 70 d_K_fillRecord_69 rfl (by decide) ?_
        refine z_goA C (z_V C kc_K_76 (c_K_put G l a (F_K_next (F_K_next (F_K_startTitle S x1) 7).2 8).2 x1 (F_K_next (F_K_startTitle S x1) 7).1 0 (-1)) (st := []) 0 0 rfl rfl rfl rfl (Nat.le_of_ble_eq_true rfl) ⟨⟨Nat.le_of_ble_eq_true rfl, Nat.le_of_ble_eq_true rfl⟩, Nat.le_of_ble_eq_true rfl, Nat.le_of_ble_eq_true rfl⟩ d_K_fillRecord_70) [] 73 rfl rfl ?_
        refine z_iconst C 0 74 d_K_fillRecord_73 rfl (by decide) ?_
        refine z_istore C [(5, .int 0), (4, .int 0), (3, .int (F_K_next (F_K_startTitle S x1) 7).1), (2, .int (-1)), (0, .ref (a 0)), (1, .int x1)] 76 d_K_fillRecord_74 rfl (by decide) rfl ?_
        refine z_lvs [4, 2, 0] [(0, .ref (a 0)), (3, .int (F_K_next (F_K_startTitle S x1) 7).1), (5, .int 0)] rfl ?_
        exact l_K_fillRecord_76 G l a C hlk hr _ (F_K_put (F_K_next (F_K_next (F_K_startTitle S x1) 7).2 8).2 x1 (F_K_next (F_K_startTitle S x1) 7).1 0 (-1)) (F_K_next (F_K_startTitle S x1) 7).1 0 (Nat.lt_succ_self _) (by rw [show F_K_fillRecord S x1 = (L_K_fillRecord_76 ((Int32.toInt (F_K_next (F_K_startTitle S x1) 7).1 - Int32.toInt 0).toNat + 1) (F_K_put (F_K_next (F_K_next (F_K_startTitle S x1) 7).2 8).2 x1 (F_K_next (F_K_startTitle S x1) 7).1 0 (-1)) (F_K_next (F_K_startTitle S x1) 7).1 0) from by rw [F_K_fillRecord, if_pos c_6, if_pos c_45]] at hq; exact hq)
  · refine z_aload_n C 10 d_K_fillRecord_9 rfl rfl ?_
    refine z_iconst C 5 11 d_K_fillRecord_10 rfl (by decide) ?_
    refine z_goA C (z_V C kc_K_72 (c_K_next G l a (F_K_startTitle S x1) 5) (st := []) 0 0 rfl rfl rfl rfl (Nat.le_of_ble_eq_true rfl) ⟨⟨Nat.le_of_ble_eq_true rfl, Nat.le_of_ble_eq_true rfl⟩, Nat.le_of_ble_eq_true rfl, Nat.le_of_ble_eq_true rfl⟩ d_K_fillRecord_11) [.int (F_K_next (F_K_startTitle S x1) 5).1] 14 rfl rfl ?_
    refine z_if_ne C 25 17 d_K_fillRecord_14 (by decide) rfl (fun c_14 => ?_) (fun c_14 => ?_)
    · refine z_iconst C (-1) 26 d_K_fillRecord_25 rfl (by decide) ?_
      refine z_istore_n C [(2, .int (-1)), (0, .ref (a 0)), (1, .int x1)] 27 d_K_fillRecord_26 rfl (by decide) rfl ?_
      refine z_iload_n C 28 d_K_fillRecord_27 rfl rfl ?_
      refine z_iconst C (-1) 29 d_K_fillRecord_28 rfl (by decide) ?_
      refine z_icmp_ne C 104 32 d_K_fillRecord_29 (by decide) rfl (fun c_29 => ?_) (fun c_29 => ?_)
      · exact absurd c_29 (by decide)
      · refine z_aload_n C 33 d_K_fillRecord_32 rfl rfl ?_
        refine z_bipush C 7 35 d_K_fillRecord_33 rfl (by decide) ?_
        refine z_goA C (z_V C kc_K_72 (c_K_next G l a (F_K_next (F_K_startTitle S x1) 5).2 7) (st := []) 0 0 rfl rfl rfl rfl (Nat.le_of_ble_eq_true rfl) ⟨⟨Nat.le_of_ble_eq_true rfl, Nat.le_of_ble_eq_true rfl⟩, Nat.le_of_ble_eq_true rfl, Nat.le_of_ble_eq_true rfl⟩ d_K_fillRecord_35) [.int (F_K_next (F_K_next (F_K_startTitle S x1) 5).2 7).1] 38 rfl rfl ?_
        refine z_istore_n C [(3, .int (F_K_next (F_K_next (F_K_startTitle S x1) 5).2 7).1), (2, .int (-1)), (0, .ref (a 0)), (1, .int x1)] 39 d_K_fillRecord_38 rfl (by decide) rfl ?_
        refine z_aload_n C 40 d_K_fillRecord_39 rfl rfl ?_
        refine z_bipush C 8 42 d_K_fillRecord_40 rfl (by decide) ?_
        refine z_goA C (z_V C kc_K_72 (c_K_next G l a (F_K_next (F_K_next (F_K_startTitle S x1) 5).2 7).2 8) (st := []) 0 0 rfl rfl rfl rfl (Nat.le_of_ble_eq_true rfl) ⟨⟨Nat.le_of_ble_eq_true rfl, Nat.le_of_ble_eq_true rfl⟩, Nat.le_of_ble_eq_true rfl, Nat.le_of_ble_eq_true rfl⟩ d_K_fillRecord_42) [.int (F_K_next (F_K_next (F_K_next (F_K_startTitle S x1) 5).2 7).2 8).1] 45 rfl rfl ?_
        refine z_if_ne C 52 48 d_K_fillRecord_45 (by decide) rfl (fun c_45 => ?_) (fun c_45 => ?_)
        · refine z_sipush C 1900 55 d_K_fillRecord_52 rfl (by decide) ?_
          refine z_aload_n C 56 d_K_fillRecord_55 rfl rfl ?_
          refine z_bipush C 120 58 d_K_fillRecord_56 rfl (by decide) ?_
          refine z_goA C (z_V C kc_K_72 (c_K_next G l a (F_K_next (F_K_next (F_K_next (F_K_startTitle S x1) 5).2 7).2 8).2 120) (st := [.int 1900]) 0 0 rfl rfl rfl rfl (Nat.le_of_ble_eq_true rfl) ⟨⟨Nat.le_of_ble_eq_true rfl, Nat.le_of_ble_eq_true rfl⟩, Nat.le_of_ble_eq_true rfl, Nat.le_of_ble_eq_true rfl⟩ d_K_fillRecord_58) [.int (F_K_next (F_K_next (F_K_next (F_K_next (F_K_startTitle S x1) 5).2 7).2 8).2 120).1, .int 1900] 61 rfl rfl ?_
          refine z_iadd C 62 d_K_fillRecord_61 rfl ?_
          refine z_istore C [(4, .int (1900 + (F_K_next (F_K_next (F_K_next (F_K_next (F_K_startTitle S x1) 5).2 7).2 8).2 120).1)), (3, .int (F_K_next (F_K_next (F_K_startTitle S x1) 5).2 7).1), (2, .int (-1)), (0, .ref (a 0)), (1, .int x1)] 64 d_K_fillRecord_62 rfl (by decide) rfl ?_
          refine z_aload_n C 65 d_K_fillRecord_64 rfl rfl ?_
          refine z_iload_n C 66 d_K_fillRecord_65 rfl rfl ?_
          refine z_iload_n C 67 d_K_fillRecord_66 rfl rfl ?_
          refine z_iload C 69 d_K_fillRecord_67 rfl rfl ?_
          refine z_iconst C (-1) 70 d_K_fillRecord_69 rfl (by decide) ?_
          refine z_goA C (z_V C kc_K_76 (c_K_put G l a (F_K_next (F_K_next (F_K_next (F_K_next (F_K_startTitle S x1) 5).2 7).2 8).2 120).2 x1 (F_K_next (F_K_next (F_K_startTitle S x1) 5).2 7).1 (1900 + (F_K_next (F_K_next (F_K_next (F_K_next (F_K_startTitle S x1) 5).2 7).2 8).2 120).1) (-1)) (st := []) 0 0 rfl rfl rfl rfl (Nat.le_of_ble_eq_true rfl) ⟨⟨Nat.le_of_ble_eq_true rfl, Nat.le_of_ble_eq_true rfl⟩, Nat.le_of_ble_eq_true rfl, Nat.le_of_ble_eq_true rfl⟩ d_K_fillRecord_70) [] 73 rfl rfl ?_
          refine z_iconst C 0 74 d_K_fillRecord_73 rfl (by decide) ?_
          refine z_istore C [(5, .int 0), (4, .int (1900 + (F_K_next (F_K_next (F_K_next (F_K_next (F_K_startTitle S x1) 5).2 7).2 8).2 120).1)), (3, .int (F_K_next (F_K_next (F_K_startTitle S x1) 5).2 7).1), (2, .int (-1)), (0, .ref (a 0)), (1, .int x1)] 76 d_K_fillRecord_74 rfl (by decide) rfl ?_
          refine z_lvs [4, 2, 0] [(0, .ref (a 0)), (3, .int (F_K_next (F_K_next (F_K_startTitle S x1) 5).2 7).1), (5, .int 0)] rfl ?_
          exact l_K_fillRecord_76 G l a C hlk hr _ (F_K_put (F_K_next (F_K_next (F_K_next (F_K_next (F_K_startTitle S x1) 5).2 7).2 8).2 120).2 x1 (F_K_next (F_K_next (F_K_startTitle S x1) 5).2 7).1 (1900 + (F_K_next (F_K_next (F_K_next (F_K_next (F_K_startTitle S x1) 5).2 7).2 8).2 120).1) (-1)) (F_K_next (F_K_next (F_K_startTitle S x1) 5).2 7).1 0 (Nat.lt_succ_self _) (by rw [show F_K_fillRecord S x1 = (L_K_fillRecord_76 ((Int32.toInt (F_K_next (F_K_next (F_K_startTitle S x1) 5).2 7).1 - Int32.toInt 0).toNat + 1) (F_K_put (F_K_next (F_K_next (F_K_next (F_K_next (F_K_startTitle S x1) 5).2 7).2 8).2 120).2 x1 (F_K_next (F_K_next (F_K_startTitle S x1) 5).2 7).1 (1900 + (F_K_next (F_K_next (F_K_next (F_K_next (F_K_startTitle S x1) 5).2 7).2 8).2 120).1) (-1)) (F_K_next (F_K_next (F_K_startTitle S x1) 5).2 7).1 0) from by rw [F_K_fillRecord, if_neg c_6, if_neg c_14, if_neg c_45]] at hq; exact hq)
        · refine z_iconst C 0 49 d_K_fillRecord_48 rfl (by decide) ?_
          refine z_goto C 62 d_K_fillRecord_49 (by decide) ?_
          refine z_istore C [(4, .int 0), (3, .int (F_K_next (F_K_next (F_K_startTitle S x1) 5).2 7).1), (2, .int (-1)), (0, .ref (a 0)), (1, .int x1)] 64 d_K_fillRecord_62 rfl (by decide) rfl ?_
          refine z_aload_n C 65 d_K_fillRecord_64 rfl rfl ?_
          refine z_iload_n C 66 d_K_fillRecord_65 rfl rfl ?_
          refine z_iload_n C 67 d_K_fillRecord_66 rfl rfl ?_
          refine z_iload C 69 d_K_fillRecord_67 rfl rfl ?_
          refine z_iconst C (-1) 70 d_K_fillRecord_69 rfl (by decide) ?_
          refine z_goA C (z_V C kc_K_76 (c_K_put G l a (F_K_next (F_K_next (F_K_next (F_K_startTitle S x1) 5).2 7).2 8).2 x1 (F_K_next (F_K_next (F_K_startTitle S x1) 5).2 7).1 0 (-1)) (st := []) 0 0 rfl rfl rfl rfl (Nat.le_of_ble_eq_true rfl) ⟨⟨Nat.le_of_ble_eq_true rfl, Nat.le_of_ble_eq_true rfl⟩, Nat.le_of_ble_eq_true rfl, Nat.le_of_ble_eq_true rfl⟩ d_K_fillRecord_70) [] 73 rfl rfl ?_
          refine z_iconst C 0 74 d_K_fillRecord_73 rfl (by decide) ?_
          refine z_istore C [(5, .int 0), (4, .int 0), (3, .int (F_K_next (F_K_next (F_K_startTitle S x1) 5).2 7).1), (2, .int (-1)), (0, .ref (a 0)), (1, .int x1)] 76 d_K_fillRecord_74 rfl (by decide) rfl ?_
          refine z_lvs [4, 2, 0] [(0, .ref (a 0)), (3, .int (F_K_next (F_K_next (F_K_startTitle S x1) 5).2 7).1), (5, .int 0)] rfl ?_
          exact l_K_fillRecord_76 G l a C hlk hr _ (F_K_put (F_K_next (F_K_next (F_K_next (F_K_startTitle S x1) 5).2 7).2 8).2 x1 (F_K_next (F_K_next (F_K_startTitle S x1) 5).2 7).1 0 (-1)) (F_K_next (F_K_next (F_K_startTitle S x1) 5).2 7).1 0 (Nat.lt_succ_self _) (by rw [show F_K_fillRecord S x1 = (L_K_fillRecord_76 ((Int32.toInt (F_K_next (F_K_next (F_K_startTitle S x1) 5).2 7).1 - Int32.toInt 0).toNat + 1) (F_K_put (F_K_next (F_K_next (F_K_next (F_K_startTitle S x1) 5).2 7).2 8).2 x1 (F_K_next (F_K_next (F_K_startTitle S x1) 5).2 7).1 0 (-1)) (F_K_next (F_K_next (F_K_startTitle S x1) 5).2 7).1 0) from by rw [F_K_fillRecord, if_neg c_6, if_neg c_14, if_pos c_45]] at hq; exact hq)
    · refine z_aload_n C 18 d_K_fillRecord_17 rfl rfl ?_
      refine z_iload_n C 19 d_K_fillRecord_18 rfl rfl ?_
      refine z_goA C (z_V C kc_K_72 (c_K_next G l a (F_K_next (F_K_startTitle S x1) 5).2 x1) (st := []) 0 0 rfl rfl rfl rfl (Nat.le_of_ble_eq_true rfl) ⟨⟨Nat.le_of_ble_eq_true rfl, Nat.le_of_ble_eq_true rfl⟩, Nat.le_of_ble_eq_true rfl, Nat.le_of_ble_eq_true rfl⟩ d_K_fillRecord_19) [.int (F_K_next (F_K_next (F_K_startTitle S x1) 5).2 x1).1] 22 rfl rfl ?_
      refine z_goto C 26 d_K_fillRecord_22 (by decide) ?_
      refine z_istore_n C [(2, .int (F_K_next (F_K_next (F_K_startTitle S x1) 5).2 x1).1), (0, .ref (a 0)), (1, .int x1)] 27 d_K_fillRecord_26 rfl (by decide) rfl ?_
      refine z_iload_n C 28 d_K_fillRecord_27 rfl rfl ?_
      refine z_iconst C (-1) 29 d_K_fillRecord_28 rfl (by decide) ?_
      refine z_icmp_ne C 104 32 d_K_fillRecord_29 (by decide) rfl (fun c_29 => ?_) (fun c_29 => ?_)
      · refine z_aload_n C 105 d_K_fillRecord_104 rfl rfl ?_
        refine z_iload_n C 106 d_K_fillRecord_105 rfl rfl ?_
        refine z_aload_n C 107 d_K_fillRecord_106 rfl rfl ?_
        refine z_iload_n C 108 d_K_fillRecord_107 rfl rfl ?_
        refine z_iconst C 0 109 d_K_fillRecord_108 rfl (by decide) ?_
        refine z_goA C (z_V C kc_K_83 (c_K_number G l a (F_K_next (F_K_next (F_K_startTitle S x1) 5).2 x1).2 (F_K_next (F_K_next (F_K_startTitle S x1) 5).2 x1).1 0) (st := [.int x1, .ref (a 0)]) 0 0 rfl rfl rfl rfl (Nat.le_of_ble_eq_true rfl) ⟨⟨Nat.le_of_ble_eq_true rfl, Nat.le_of_ble_eq_true rfl⟩, Nat.le_of_ble_eq_true rfl, Nat.le_of_ble_eq_true rfl⟩ d_K_fillRecord_109) [.int (F_K_number (F_K_next (F_K_next (F_K_startTitle S x1) 5).2 x1).2 (F_K_next (F_K_next (F_K_startTitle S x1) 5).2 x1).1 0), .int x1, .ref (a 0)] 112 rfl rfl ?_
        refine z_aload_n C 113 d_K_fillRecord_112 rfl rfl ?_
        refine z_iload_n C 114 d_K_fillRecord_113 rfl rfl ?_
        refine z_iconst C 1 115 d_K_fillRecord_114 rfl (by decide) ?_
        refine z_goA C (z_V C kc_K_83 (c_K_number G l a (F_K_next (F_K_next (F_K_startTitle S x1) 5).2 x1).2 (F_K_next (F_K_next (F_K_startTitle S x1) 5).2 x1).1 1) (st := [.int (F_K_number (F_K_next (F_K_next (F_K_startTitle S x1) 5).2 x1).2 (F_K_next (F_K_next (F_K_startTitle S x1) 5).2 x1).1 0), .int x1, .ref (a 0)]) 0 0 rfl rfl rfl rfl (Nat.le_of_ble_eq_true rfl) ⟨⟨Nat.le_of_ble_eq_true rfl, Nat.le_of_ble_eq_true rfl⟩, Nat.le_of_ble_eq_true rfl, Nat.le_of_ble_eq_true rfl⟩ d_K_fillRecord_115) [.int (F_K_number (F_K_next (F_K_next (F_K_startTitle S x1) 5).2 x1).2 (F_K_next (F_K_next (F_K_startTitle S x1) 5).2 x1).1 1), .int (F_K_number (F_K_next (F_K_next (F_K_startTitle S x1) 5).2 x1).2 (F_K_next (F_K_next (F_K_startTitle S x1) 5).2 x1).1 0), .int x1, .ref (a 0)] 118 rfl rfl ?_
        refine z_iload_n C 119 d_K_fillRecord_118 rfl rfl ?_
        refine z_goA C (z_V C kc_K_76 (c_K_put G l a (F_K_next (F_K_next (F_K_startTitle S x1) 5).2 x1).2 x1 (F_K_number (F_K_next (F_K_next (F_K_startTitle S x1) 5).2 x1).2 (F_K_next (F_K_next (F_K_startTitle S x1) 5).2 x1).1 0) (F_K_number (F_K_next (F_K_next (F_K_startTitle S x1) 5).2 x1).2 (F_K_next (F_K_next (F_K_startTitle S x1) 5).2 x1).1 1) (F_K_next (F_K_next (F_K_startTitle S x1) 5).2 x1).1) (st := []) 0 0 rfl rfl rfl rfl (Nat.le_of_ble_eq_true rfl) ⟨⟨Nat.le_of_ble_eq_true rfl, Nat.le_of_ble_eq_true rfl⟩, Nat.le_of_ble_eq_true rfl, Nat.le_of_ble_eq_true rfl⟩ d_K_fillRecord_119) [] 122 rfl rfl ?_
        refine z_aload_n C 123 d_K_fillRecord_122 rfl rfl ?_
        refine z_iload_n C 124 d_K_fillRecord_123 rfl rfl ?_
        refine z_goA C (z_V C kc_K_87 (c_K_repeatTitle G l a (F_K_put (F_K_next (F_K_next (F_K_startTitle S x1) 5).2 x1).2 x1 (F_K_number (F_K_next (F_K_next (F_K_startTitle S x1) 5).2 x1).2 (F_K_next (F_K_next (F_K_startTitle S x1) 5).2 x1).1 0) (F_K_number (F_K_next (F_K_next (F_K_startTitle S x1) 5).2 x1).2 (F_K_next (F_K_next (F_K_startTitle S x1) 5).2 x1).1 1) (F_K_next (F_K_next (F_K_startTitle S x1) 5).2 x1).1) (F_K_next (F_K_next (F_K_startTitle S x1) 5).2 x1).1) (st := []) 0 0 rfl rfl rfl rfl (Nat.le_of_ble_eq_true rfl) ⟨⟨Nat.le_of_ble_eq_true rfl, Nat.le_of_ble_eq_true rfl⟩, Nat.le_of_ble_eq_true rfl, Nat.le_of_ble_eq_true rfl⟩ d_K_fillRecord_124) [] 127 rfl rfl ?_
        refine z_aload_n C 128 d_K_fillRecord_127 rfl rfl ?_
        refine z_bipush C 10 130 d_K_fillRecord_128 rfl (by decide) ?_
        refine z_goA C (z_V C kc_K_80 (c_K_addSign G l a (F_K_repeatTitle (F_K_put (F_K_next (F_K_next (F_K_startTitle S x1) 5).2 x1).2 x1 (F_K_number (F_K_next (F_K_next (F_K_startTitle S x1) 5).2 x1).2 (F_K_next (F_K_next (F_K_startTitle S x1) 5).2 x1).1 0) (F_K_number (F_K_next (F_K_next (F_K_startTitle S x1) 5).2 x1).2 (F_K_next (F_K_next (F_K_startTitle S x1) 5).2 x1).1 1) (F_K_next (F_K_next (F_K_startTitle S x1) 5).2 x1).1) (F_K_next (F_K_next (F_K_startTitle S x1) 5).2 x1).1) 10) (st := []) 0 0 rfl rfl rfl rfl (Nat.le_of_ble_eq_true rfl) ⟨⟨Nat.le_of_ble_eq_true rfl, Nat.le_of_ble_eq_true rfl⟩, Nat.le_of_ble_eq_true rfl, Nat.le_of_ble_eq_true rfl⟩ d_K_fillRecord_130) [] 133 rfl rfl ?_
        exact z_vret C hlk hr d_K_fillRecord_133 (by rw [show F_K_fillRecord S x1 = (F_K_addSign (F_K_repeatTitle (F_K_put (F_K_next (F_K_next (F_K_startTitle S x1) 5).2 x1).2 x1 (F_K_number (F_K_next (F_K_next (F_K_startTitle S x1) 5).2 x1).2 (F_K_next (F_K_next (F_K_startTitle S x1) 5).2 x1).1 0) (F_K_number (F_K_next (F_K_next (F_K_startTitle S x1) 5).2 x1).2 (F_K_next (F_K_next (F_K_startTitle S x1) 5).2 x1).1 1) (F_K_next (F_K_next (F_K_startTitle S x1) 5).2 x1).1) (F_K_next (F_K_next (F_K_startTitle S x1) 5).2 x1).1) 10) from by rw [F_K_fillRecord, if_neg c_6, if_pos c_14, if_neg c_29]] at hq; exact hq)
      · refine z_aload_n C 33 d_K_fillRecord_32 rfl rfl ?_
        refine z_bipush C 7 35 d_K_fillRecord_33 rfl (by decide) ?_
        refine z_goA C (z_V C kc_K_72 (c_K_next G l a (F_K_next (F_K_next (F_K_startTitle S x1) 5).2 x1).2 7) (st := []) 0 0 rfl rfl rfl rfl (Nat.le_of_ble_eq_true rfl) ⟨⟨Nat.le_of_ble_eq_true rfl, Nat.le_of_ble_eq_true rfl⟩, Nat.le_of_ble_eq_true rfl, Nat.le_of_ble_eq_true rfl⟩ d_K_fillRecord_35) [.int (F_K_next (F_K_next (F_K_next (F_K_startTitle S x1) 5).2 x1).2 7).1] 38 rfl rfl ?_
        refine z_istore_n C [(3, .int (F_K_next (F_K_next (F_K_next (F_K_startTitle S x1) 5).2 x1).2 7).1), (2, .int (F_K_next (F_K_next (F_K_startTitle S x1) 5).2 x1).1), (0, .ref (a 0)), (1, .int x1)] 39 d_K_fillRecord_38 rfl (by decide) rfl ?_
        refine z_aload_n C 40 d_K_fillRecord_39 rfl rfl ?_
        refine z_bipush C 8 42 d_K_fillRecord_40 rfl (by decide) ?_
        refine z_goA C (z_V C kc_K_72 (c_K_next G l a (F_K_next (F_K_next (F_K_next (F_K_startTitle S x1) 5).2 x1).2 7).2 8) (st := []) 0 0 rfl rfl rfl rfl (Nat.le_of_ble_eq_true rfl) ⟨⟨Nat.le_of_ble_eq_true rfl, Nat.le_of_ble_eq_true rfl⟩, Nat.le_of_ble_eq_true rfl, Nat.le_of_ble_eq_true rfl⟩ d_K_fillRecord_42) [.int (F_K_next (F_K_next (F_K_next (F_K_next (F_K_startTitle S x1) 5).2 x1).2 7).2 8).1] 45 rfl rfl ?_
        refine z_if_ne C 52 48 d_K_fillRecord_45 (by decide) rfl (fun c_45 => ?_) (fun c_45 => ?_)
        · refine z_sipush C 1900 55 d_K_fillRecord_52 rfl (by decide) ?_
          refine z_aload_n C 56 d_K_fillRecord_55 rfl rfl ?_
          refine z_bipush C 120 58 d_K_fillRecord_56 rfl (by decide) ?_
          refine z_goA C (z_V C kc_K_72 (c_K_next G l a (F_K_next (F_K_next (F_K_next (F_K_next (F_K_startTitle S x1) 5).2 x1).2 7).2 8).2 120) (st := [.int 1900]) 0 0 rfl rfl rfl rfl (Nat.le_of_ble_eq_true rfl) ⟨⟨Nat.le_of_ble_eq_true rfl, Nat.le_of_ble_eq_true rfl⟩, Nat.le_of_ble_eq_true rfl, Nat.le_of_ble_eq_true rfl⟩ d_K_fillRecord_58) [.int (F_K_next (F_K_next (F_K_next (F_K_next (F_K_next (F_K_startTitle S x1) 5).2 x1).2 7).2 8).2 120).1, .int 1900] 61 rfl rfl ?_
          refine z_iadd C 62 d_K_fillRecord_61 rfl ?_
          refine z_istore C [(4, .int (1900 + (F_K_next (F_K_next (F_K_next (F_K_next (F_K_next (F_K_startTitle S x1) 5).2 x1).2 7).2 8).2 120).1)), (3, .int (F_K_next (F_K_next (F_K_next (F_K_startTitle S x1) 5).2 x1).2 7).1), (2, .int (F_K_next (F_K_next (F_K_startTitle S x1) 5).2 x1).1), (0, .ref (a 0)), (1, .int x1)] 64 d_K_fillRecord_62 rfl (by decide) rfl ?_
          refine z_aload_n C 65 d_K_fillRecord_64 rfl rfl ?_
          refine z_iload_n C 66 d_K_fillRecord_65 rfl rfl ?_
          refine z_iload_n C 67 d_K_fillRecord_66 rfl rfl ?_
          refine z_iload C 69 d_K_fillRecord_67 rfl rfl ?_
          refine z_iconst C (-1) 70 d_K_fillRecord_69 rfl (by decide) ?_
          refine z_goA C (z_V C kc_K_76 (c_K_put G l a (F_K_next (F_K_next (F_K_next (F_K_next (F_K_next (F_K_startTitle S x1) 5).2 x1).2 7).2 8).2 120).2 x1 (F_K_next (F_K_next (F_K_next (F_K_startTitle S x1) 5).2 x1).2 7).1 (1900 + (F_K_next (F_K_next (F_K_next (F_K_next (F_K_next (F_K_startTitle S x1) 5).2 x1).2 7).2 8).2 120).1) (-1)) (st := []) 0 0 rfl rfl rfl rfl (Nat.le_of_ble_eq_true rfl) ⟨⟨Nat.le_of_ble_eq_true rfl, Nat.le_of_ble_eq_true rfl⟩, Nat.le_of_ble_eq_true rfl, Nat.le_of_ble_eq_true rfl⟩ d_K_fillRecord_70) [] 73 rfl rfl ?_
          refine z_iconst C 0 74 d_K_fillRecord_73 rfl (by decide) ?_
          refine z_istore C [(5, .int 0), (4, .int (1900 + (F_K_next (F_K_next (F_K_next (F_K_next (F_K_next (F_K_startTitle S x1) 5).2 x1).2 7).2 8).2 120).1)), (3, .int (F_K_next (F_K_next (F_K_next (F_K_startTitle S x1) 5).2 x1).2 7).1), (2, .int (F_K_next (F_K_next (F_K_startTitle S x1) 5).2 x1).1), (0, .ref (a 0)), (1, .int x1)] 76 d_K_fillRecord_74 rfl (by decide) rfl ?_
          refine z_lvs [4, 2, 0] [(0, .ref (a 0)), (3, .int (F_K_next (F_K_next (F_K_next (F_K_startTitle S x1) 5).2 x1).2 7).1), (5, .int 0)] rfl ?_
          exact l_K_fillRecord_76 G l a C hlk hr _ (F_K_put (F_K_next (F_K_next (F_K_next (F_K_next (F_K_next (F_K_startTitle S x1) 5).2 x1).2 7).2 8).2 120).2 x1 (F_K_next (F_K_next (F_K_next (F_K_startTitle S x1) 5).2 x1).2 7).1 (1900 + (F_K_next (F_K_next (F_K_next (F_K_next (F_K_next (F_K_startTitle S x1) 5).2 x1).2 7).2 8).2 120).1) (-1)) (F_K_next (F_K_next (F_K_next (F_K_startTitle S x1) 5).2 x1).2 7).1 0 (Nat.lt_succ_self _) (by rw [show F_K_fillRecord S x1 = (L_K_fillRecord_76 ((Int32.toInt (F_K_next (F_K_next (F_K_next (F_K_startTitle S x1) 5).2 x1).2 7).1 - Int32.toInt 0).toNat + 1) (F_K_put (F_K_next (F_K_next (F_K_next (F_K_next (F_K_next (F_K_startTitle S x1) 5).2 x1).2 7).2 8).2 120).2 x1 (F_K_next (F_K_next (F_K_next (F_K_startTitle S x1) 5).2 x1).2 7).1 (1900 + (F_K_next (F_K_next (F_K_next (F_K_next (F_K_next (F_K_startTitle S x1) 5).2 x1).2 7).2 8).2 120).1) (-1)) (F_K_next (F_K_next (F_K_next (F_K_startTitle S x1) 5).2 x1).2 7).1 0) from by rw [F_K_fillRecord, if_neg c_6, if_pos c_14, if_pos c_29, if_neg c_45]] at hq; exact hq)
        · refine z_iconst C 0 49 d_K_fillRecord_48 rfl (by decide) ?_
          refine z_goto C 62 d_K_fillRecord_49 (by decide) ?_
          refine z_istore C [(4, .int 0), (3, .int (F_K_next (F_K_next (F_K_next (F_K_startTitle S x1) 5).2 x1).2 7).1), (2, .int (F_K_next (F_K_next (F_K_startTitle S x1) 5).2 x1).1), (0, .ref (a 0)), (1, .int x1)] 64 d_K_fillRecord_62 rfl (by decide) rfl ?_
          refine z_aload_n C 65 d_K_fillRecord_64 rfl rfl ?_
          refine z_iload_n C 66 d_K_fillRecord_65 rfl rfl ?_
          refine z_iload_n C 67 d_K_fillRecord_66 rfl rfl ?_
          refine z_iload C 69 d_K_fillRecord_67 rfl rfl ?_
          refine z_iconst C (-1) 70 d_K_fillRecord_69 rfl (by decide) ?_
          refine z_goA C (z_V C kc_K_76 (c_K_put G l a (F_K_next (F_K_next (F_K_next (F_K_next (F_K_startTitle S x1) 5).2 x1).2 7).2 8).2 x1 (F_K_next (F_K_next (F_K_next (F_K_startTitle S x1) 5).2 x1).2 7).1 0 (-1)) (st := []) 0 0 rfl rfl rfl rfl (Nat.le_of_ble_eq_true rfl) ⟨⟨Nat.le_of_ble_eq_true rfl, Nat.le_of_ble_eq_true rfl⟩, Nat.le_of_ble_eq_true rfl, Nat.le_of_ble_eq_true rfl⟩ d_K_fillRecord_70) [] 73 rfl rfl ?_
          refine z_iconst C 0 74 d_K_fillRecord_73 rfl (by decide) ?_
          refine z_istore C [(5, .int 0), (4, .int 0), (3, .int (F_K_next (F_K_next (F_K_next (F_K_startTitle S x1) 5).2 x1).2 7).1), (2, .int (F_K_next (F_K_next (F_K_startTitle S x1) 5).2 x1).1), (0, .ref (a 0)), (1, .int x1)] 76 d_K_fillRecord_74 rfl (by decide) rfl ?_
          refine z_lvs [4, 2, 0] [(0, .ref (a 0)), (3, .int (F_K_next (F_K_next (F_K_next (F_K_startTitle S x1) 5).2 x1).2 7).1), (5, .int 0)] rfl ?_
          exact l_K_fillRecord_76 G l a C hlk hr _ (F_K_put (F_K_next (F_K_next (F_K_next (F_K_next (F_K_startTitle S x1) 5).2 x1).2 7).2 8).2 x1 (F_K_next (F_K_next (F_K_next (F_K_startTitle S x1) 5).2 x1).2 7).1 0 (-1)) (F_K_next (F_K_next (F_K_next (F_K_startTitle S x1) 5).2 x1).2 7).1 0 (Nat.lt_succ_self _) (by rw [show F_K_fillRecord S x1 = (L_K_fillRecord_76 ((Int32.toInt (F_K_next (F_K_next (F_K_next (F_K_startTitle S x1) 5).2 x1).2 7).1 - Int32.toInt 0).toNat + 1) (F_K_put (F_K_next (F_K_next (F_K_next (F_K_next (F_K_startTitle S x1) 5).2 x1).2 7).2 8).2 x1 (F_K_next (F_K_next (F_K_next (F_K_startTitle S x1) 5).2 x1).2 7).1 0 (-1)) (F_K_next (F_K_next (F_K_next (F_K_startTitle S x1) 5).2 x1).2 7).1 0) from by rw [F_K_fillRecord, if_neg c_6, if_pos c_14, if_pos c_29, if_pos c_45]] at hq; exact hq)

def L_K_fillFileWithWinner_27 : Nat → SK → Int32 → Int32 → Int32 → Int32 → Int32 → Int32 → SK
  | 0, S, v1, v2, v3, v4, v5, v6 => S
  | n + 1, S, v1, v2, v3, v4, v5, v6 =>
    if v2 ≤ v6 then
      (F_K_put S v1 v2 v5 0)
    else
      if v4 ≤ v6 then
        (L_K_fillFileWithWinner_27 n (F_K_next S 3).2 v1 v2 v3 v4 (v5 + ((F_K_next S 3).1 <<< ((2 * v6) &&& 31))) (v6 + 1))
      else
        (L_K_fillFileWithWinner_27 n S v1 v2 v3 v4 (v5 + (v3 <<< ((2 * v6) &&& 31))) (v6 + 1))
set_option maxRecDepth 100000 in
set_option maxHeartbeats 4000000 in
theorem l_K_fillFileWithWinner_27 (G : zG) (l : Launch) (a : Nat → Nat) {p : Program} {e : Env} {s : State} {m : MethodId} {args : Array Value} {below : List Frame} {meth : Method} {c : Code} {w0 : va_W} {Post : Option Value → va_W → Prop} (C : zC p s m args meth c b_K_fillFileWithWinner 8 N_K G (va_A w0 s.heap.size)) (hlk : meth.locks = false) (hr : meth.sig.returnType = none) :
    ∀ (n : Nat) (S : SK) (v1 : Int32) (v2 : Int32) (v3 : Int32) (v4 : Int32) (v5 : Int32) (v6 : Int32), (Int32.toInt v2 - Int32.toInt v6).toNat < n → Post (none) (wK G a (L_K_fillFileWithWinner_27 n S v1 v2 v3 v4 v5 v6)) → zV p l e (zR 2 45) s m args below meth c 8 G (va_A w0 s.heap.size) (MQ below (zQ G w0 s.heap.size Post) args s 0 0 (va_A w0 s.heap.size)) 0 0 (wK G a S) 27 [(0, .ref (a 0)), (1, .int v1), (2, .int v2), (3, .int v3), (4, .int v4), (5, .int v5), (6, .int v6)] [] := by
  intro n
  induction n with
  | zero => intro S v1 v2 v3 v4 v5 v6 h; exact absurd h (Nat.not_lt_zero _)
  | succ n ih =>
    intro S v1 v2 v3 v4 v5 v6 hmu hq
    refine z_iload C 29 d_K_fillFileWithWinner_27 rfl rfl ?_
    refine z_iload_n C 30 d_K_fillFileWithWinner_29 rfl rfl ?_
    refine z_icmp_ge C 69 33 d_K_fillFileWithWinner_30 (by decide) rfl (fun c_30 => ?_) (fun c_30 => ?_)
    · refine z_aload_n C 70 d_K_fillFileWithWinner_69 rfl rfl ?_
      refine z_iload_n C 71 d_K_fillFileWithWinner_70 rfl rfl ?_
      refine z_iload_n C 72 d_K_fillFileWithWinner_71 rfl rfl ?_
      refine z_iload C 74 d_K_fillFileWithWinner_72 rfl rfl ?_
      refine z_iconst C 0 75 d_K_fillFileWithWinner_74 rfl (by decide) ?_
      refine z_goA C (z_V C kc_K_76 (c_K_put G l a S v1 v2 v5 0) (st := []) 0 0 rfl rfl rfl rfl (Nat.le_of_ble_eq_true rfl) ⟨⟨Nat.le_of_ble_eq_true rfl, Nat.le_of_ble_eq_true rfl⟩, Nat.le_of_ble_eq_true rfl, Nat.le_of_ble_eq_true rfl⟩ d_K_fillFileWithWinner_75) [] 78 rfl rfl ?_
      exact z_vret C hlk hr d_K_fillFileWithWinner_78 (by rw [show L_K_fillFileWithWinner_27 (n + 1) S v1 v2 v3 v4 v5 v6 = (F_K_put S v1 v2 v5 0) from by rw [L_K_fillFileWithWinner_27, if_pos c_30]] at hq; exact hq)
    · refine z_iload C 35 d_K_fillFileWithWinner_33 rfl rfl ?_
      refine z_iload C 37 d_K_fillFileWithWinner_35 rfl rfl ?_
      refine z_icmp_ge C 44 40 d_K_fillFileWithWinner_37 (by decide) rfl (fun c_37 => ?_) (fun c_37 => ?_)
      · refine z_aload_n C 45 d_K_fillFileWithWinner_44 rfl rfl ?_
        refine z_iconst C 3 46 d_K_fillFileWithWinner_45 rfl (by decide) ?_
        refine z_goA C (z_V C kc_K_72 (c_K_next G l a S 3) (st := []) 0 0 rfl rfl rfl rfl (Nat.le_of_ble_eq_true rfl) ⟨⟨Nat.le_of_ble_eq_true rfl, Nat.le_of_ble_eq_true rfl⟩, Nat.le_of_ble_eq_true rfl, Nat.le_of_ble_eq_true rfl⟩ d_K_fillFileWithWinner_46) [.int (F_K_next S 3).1] 49 rfl rfl ?_
        refine z_istore C [(7, .int (F_K_next S 3).1), (0, .ref (a 0)), (1, .int v1), (2, .int v2), (3, .int v3), (4, .int v4), (5, .int v5), (6, .int v6)] 51 d_K_fillFileWithWinner_49 rfl (by decide) rfl ?_
        refine z_iload C 53 d_K_fillFileWithWinner_51 rfl rfl ?_
        refine z_iload C 55 d_K_fillFileWithWinner_53 rfl rfl ?_
        refine z_iconst C 2 56 d_K_fillFileWithWinner_55 rfl (by decide) ?_
        refine z_iload C 58 d_K_fillFileWithWinner_56 rfl rfl ?_
        refine z_imul C 59 d_K_fillFileWithWinner_58 rfl ?_
        refine z_ishl C 60 d_K_fillFileWithWinner_59 rfl ?_
        refine z_iadd C 61 d_K_fillFileWithWinner_60 rfl ?_
        refine z_istore C [(5, .int (v5 + ((F_K_next S 3).1 <<< ((2 * v6) &&& 31)))), (7, .int (F_K_next S 3).1), (0, .ref (a 0)), (1, .int v1), (2, .int v2), (3, .int v3), (4, .int v4), (6, .int v6)] 63 d_K_fillFileWithWinner_61 rfl (by decide) rfl ?_
        refine z_iinc C (v6 + 1) [(6, .int (v6 + 1)), (5, .int (v5 + ((F_K_next S 3).1 <<< ((2 * v6) &&& 31)))), (7, .int (F_K_next S 3).1), (0, .ref (a 0)), (1, .int v1), (2, .int v2), (3, .int v3), (4, .int v4)] 66 d_K_fillFileWithWinner_63 rfl (by decide) rfl rfl rfl ?_
        refine z_goto C 27 d_K_fillFileWithWinner_66 (by decide) ?_
        refine z_lvs [3, 4, 5, 6, 7, 1, 0] [(0, .ref (a 0)), (1, .int v1), (2, .int v2), (3, .int v3), (4, .int v4), (5, .int (v5 + ((F_K_next S 3).1 <<< ((2 * v6) &&& 31)))), (6, .int (v6 + 1))] rfl ?_
        exact ih (F_K_next S 3).2 v1 v2 v3 v4 (v5 + ((F_K_next S 3).1 <<< ((2 * v6) &&& 31))) (v6 + 1) (zdec c_30 hmu) (by rw [show L_K_fillFileWithWinner_27 (n + 1) S v1 v2 v3 v4 v5 v6 = (L_K_fillFileWithWinner_27 n (F_K_next S 3).2 v1 v2 v3 v4 (v5 + ((F_K_next S 3).1 <<< ((2 * v6) &&& 31))) (v6 + 1)) from by rw [L_K_fillFileWithWinner_27, if_neg c_30, if_pos c_37]] at hq; exact hq)
      · refine z_iload_n C 41 d_K_fillFileWithWinner_40 rfl rfl ?_
        refine z_goto C 49 d_K_fillFileWithWinner_41 (by decide) ?_
        refine z_istore C [(7, .int v3), (0, .ref (a 0)), (1, .int v1), (2, .int v2), (3, .int v3), (4, .int v4), (5, .int v5), (6, .int v6)] 51 d_K_fillFileWithWinner_49 rfl (by decide) rfl ?_
        refine z_iload C 53 d_K_fillFileWithWinner_51 rfl rfl ?_
        refine z_iload C 55 d_K_fillFileWithWinner_53 rfl rfl ?_
        refine z_iconst C 2 56 d_K_fillFileWithWinner_55 rfl (by decide) ?_
        refine z_iload C 58 d_K_fillFileWithWinner_56 rfl rfl ?_
        refine z_imul C 59 d_K_fillFileWithWinner_58 rfl ?_
        refine z_ishl C 60 d_K_fillFileWithWinner_59 rfl ?_
        refine z_iadd C 61 d_K_fillFileWithWinner_60 rfl ?_
        refine z_istore C [(5, .int (v5 + (v3 <<< ((2 * v6) &&& 31)))), (7, .int v3), (0, .ref (a 0)), (1, .int v1), (2, .int v2), (3, .int v3), (4, .int v4), (6, .int v6)] 63 d_K_fillFileWithWinner_61 rfl (by decide) rfl ?_
        refine z_iinc C (v6 + 1) [(6, .int (v6 + 1)), (5, .int (v5 + (v3 <<< ((2 * v6) &&& 31)))), (7, .int v3), (0, .ref (a 0)), (1, .int v1), (2, .int v2), (3, .int v3), (4, .int v4)] 66 d_K_fillFileWithWinner_63 rfl (by decide) rfl rfl rfl ?_
        refine z_goto C 27 d_K_fillFileWithWinner_66 (by decide) ?_
        refine z_lvs [3, 4, 5, 6, 7, 1, 0] [(0, .ref (a 0)), (1, .int v1), (2, .int v2), (3, .int v3), (4, .int v4), (5, .int (v5 + (v3 <<< ((2 * v6) &&& 31)))), (6, .int (v6 + 1))] rfl ?_
        exact ih S v1 v2 v3 v4 (v5 + (v3 <<< ((2 * v6) &&& 31))) (v6 + 1) (zdec c_30 hmu) (by rw [show L_K_fillFileWithWinner_27 (n + 1) S v1 v2 v3 v4 v5 v6 = (L_K_fillFileWithWinner_27 n S v1 v2 v3 v4 (v5 + (v3 <<< ((2 * v6) &&& 31))) (v6 + 1)) from by rw [L_K_fillFileWithWinner_27, if_neg c_30, if_neg c_37]] at hq; exact hq)
def F_K_fillFileWithWinner (S : SK) (x1 : Int32) : SK :=
  (L_K_fillFileWithWinner_27 ((Int32.toInt (1 + (F_K_next S 5).1) - Int32.toInt 0).toNat + 1) (F_K_next (F_K_next S 5).2 3).2 x1 (1 + (F_K_next S 5).1) (F_K_next (F_K_next S 5).2 3).1 (((1 + (F_K_next S 5).1) / 2) + 1) 0 0)
set_option maxRecDepth 100000 in
set_option maxHeartbeats 4000000 in
theorem c_K_fillFileWithWinner (G : zG) (l : Launch) (a : Nat → Nat) (S : SK) (x1 : Int32)  : zM G l y_K_fillFileWithWinner b_K_fillFileWithWinner 8 (none) (zR 2 45) [.ref (a 0), .int x1] (wK G a S) (fun r1 w1 => r1 = none ∧ w1 = wK G a (F_K_fillFileWithWinner S x1)) := by
  generalize hPost : (fun (r1 : Option Value) (w1 : va_W) => r1 = none ∧ w1 = wK G a (F_K_fillFileWithWinner S x1)) = Post
  have hq : Post (none) (wK G a (F_K_fillFileWithWinner S x1)) := by rw [← hPost]; exact ⟨rfl, rfl⟩
  clear hPost
  refine zM_of (by decide) (Nat.le_of_ble_eq_true rfl) ?_
  intro p e s m args below meth c C hlk hr hin
  refine z_iconst C 1 1 d_K_fillFileWithWinner_0 rfl (by decide) ?_
  refine z_aload_n C 2 d_K_fillFileWithWinner_1 rfl rfl ?_
  refine z_iconst C 5 3 d_K_fillFileWithWinner_2 rfl (by decide) ?_
  refine z_goA C (z_V C kc_K_72 (c_K_next G l a S 5) (st := [.int 1]) 0 0 rfl rfl rfl rfl (Nat.le_of_ble_eq_true rfl) ⟨⟨Nat.le_of_ble_eq_true rfl, Nat.le_of_ble_eq_true rfl⟩, Nat.le_of_ble_eq_true rfl, Nat.le_of_ble_eq_true rfl⟩ d_K_fillFileWithWinner_3) [.int (F_K_next S 5).1, .int 1] 6 rfl rfl ?_
  refine z_iadd C 7 d_K_fillFileWithWinner_6 rfl ?_
  refine z_istore_n C [(2, .int (1 + (F_K_next S 5).1)), (0, .ref (a 0)), (1, .int x1)] 8 d_K_fillFileWithWinner_7 rfl (by decide) rfl ?_
  refine z_aload_n C 9 d_K_fillFileWithWinner_8 rfl rfl ?_
  refine z_iconst C 3 10 d_K_fillFileWithWinner_9 rfl (by decide) ?_
  refine z_goA C (z_V C kc_K_72 (c_K_next G l a (F_K_next S 5).2 3) (st := []) 0 0 rfl rfl rfl rfl (Nat.le_of_ble_eq_true rfl) ⟨⟨Nat.le_of_ble_eq_true rfl, Nat.le_of_ble_eq_true rfl⟩, Nat.le_of_ble_eq_true rfl, Nat.le_of_ble_eq_true rfl⟩ d_K_fillFileWithWinner_10) [.int (F_K_next (F_K_next S 5).2 3).1] 13 rfl rfl ?_
  refine z_istore_n C [(3, .int (F_K_next (F_K_next S 5).2 3).1), (2, .int (1 + (F_K_next S 5).1)), (0, .ref (a 0)), (1, .int x1)] 14 d_K_fillFileWithWinner_13 rfl (by decide) rfl ?_
  refine z_iload_n C 15 d_K_fillFileWithWinner_14 rfl rfl ?_
  refine z_iconst C 2 16 d_K_fillFileWithWinner_15 rfl (by decide) ?_
  refine z_idiv C 17 d_K_fillFileWithWinner_16 rfl (by decide) ?_
  refine z_iconst C 1 18 d_K_fillFileWithWinner_17 rfl (by decide) ?_
  refine z_iadd C 19 d_K_fillFileWithWinner_18 rfl ?_
  refine z_istore C [(4, .int (((1 + (F_K_next S 5).1) / 2) + 1)), (3, .int (F_K_next (F_K_next S 5).2 3).1), (2, .int (1 + (F_K_next S 5).1)), (0, .ref (a 0)), (1, .int x1)] 21 d_K_fillFileWithWinner_19 rfl (by decide) rfl ?_
  refine z_iconst C 0 22 d_K_fillFileWithWinner_21 rfl (by decide) ?_
  refine z_istore C [(5, .int 0), (4, .int (((1 + (F_K_next S 5).1) / 2) + 1)), (3, .int (F_K_next (F_K_next S 5).2 3).1), (2, .int (1 + (F_K_next S 5).1)), (0, .ref (a 0)), (1, .int x1)] 24 d_K_fillFileWithWinner_22 rfl (by decide) rfl ?_
  refine z_iconst C 0 25 d_K_fillFileWithWinner_24 rfl (by decide) ?_
  refine z_istore C [(6, .int 0), (5, .int 0), (4, .int (((1 + (F_K_next S 5).1) / 2) + 1)), (3, .int (F_K_next (F_K_next S 5).2 3).1), (2, .int (1 + (F_K_next S 5).1)), (0, .ref (a 0)), (1, .int x1)] 27 d_K_fillFileWithWinner_25 rfl (by decide) rfl ?_
  refine z_lvs [5, 6, 4, 3, 2, 1, 0] [(0, .ref (a 0)), (1, .int x1), (2, .int (1 + (F_K_next S 5).1)), (3, .int (F_K_next (F_K_next S 5).2 3).1), (4, .int (((1 + (F_K_next S 5).1) / 2) + 1)), (5, .int 0), (6, .int 0)] rfl ?_
  exact l_K_fillFileWithWinner_27 G l a C hlk hr _ (F_K_next (F_K_next S 5).2 3).2 x1 (1 + (F_K_next S 5).1) (F_K_next (F_K_next S 5).2 3).1 (((1 + (F_K_next S 5).1) / 2) + 1) 0 0 (Nat.lt_succ_self _) (by rw [show F_K_fillFileWithWinner S x1 = (L_K_fillFileWithWinner_27 ((Int32.toInt (1 + (F_K_next S 5).1) - Int32.toInt 0).toNat + 1) (F_K_next (F_K_next S 5).2 3).2 x1 (1 + (F_K_next S 5).1) (F_K_next (F_K_next S 5).2 3).1 (((1 + (F_K_next S 5).1) / 2) + 1) 0 0) from by rw [F_K_fillFileWithWinner]] at hq; exact hq)

def L_K_fillFileWithoutWinner_20 : Nat → SK → Int32 → Int32 → Int32 → Int32 → Int32 → SK
  | 0, S, v1, v2, v3, v4, v5 => S
  | n + 1, S, v1, v2, v3, v4, v5 =>
    if v2 ≤ v5 then
      (F_K_put S v1 v2 v4 0)
    else
      if v3 = 2 then
        (L_K_fillFileWithoutWinner_20 n S v1 v2 0 (v4 + (v3 <<< ((2 * v5) &&& 31))) (v5 + 1))
      else
        (L_K_fillFileWithoutWinner_20 n S v1 v2 (v3 + 1) (v4 + (v3 <<< ((2 * v5) &&& 31))) (v5 + 1))
set_option maxRecDepth 100000 in
set_option maxHeartbeats 4000000 in
theorem l_K_fillFileWithoutWinner_20 (G : zG) (l : Launch) (a : Nat → Nat) {p : Program} {e : Env} {s : State} {m : MethodId} {args : Array Value} {below : List Frame} {meth : Method} {c : Code} {w0 : va_W} {Post : Option Value → va_W → Prop} (C : zC p s m args meth c b_K_fillFileWithoutWinner 6 N_K G (va_A w0 s.heap.size)) (hlk : meth.locks = false) (hr : meth.sig.returnType = none) :
    ∀ (n : Nat) (S : SK) (v1 : Int32) (v2 : Int32) (v3 : Int32) (v4 : Int32) (v5 : Int32), (Int32.toInt v2 - Int32.toInt v5).toNat < n → Post (none) (wK G a (L_K_fillFileWithoutWinner_20 n S v1 v2 v3 v4 v5)) → zV p l e (zR 2 45) s m args below meth c 6 G (va_A w0 s.heap.size) (MQ below (zQ G w0 s.heap.size Post) args s 0 0 (va_A w0 s.heap.size)) 0 0 (wK G a S) 20 [(0, .ref (a 0)), (1, .int v1), (2, .int v2), (3, .int v3), (4, .int v4), (5, .int v5)] [] := by
  intro n
  induction n with
  | zero => intro S v1 v2 v3 v4 v5 h; exact absurd h (Nat.not_lt_zero _)
  | succ n ih =>
    intro S v1 v2 v3 v4 v5 hmu hq
    refine z_iload C 22 d_K_fillFileWithoutWinner_20 rfl rfl ?_
    refine z_iload_n C 23 d_K_fillFileWithoutWinner_22 rfl rfl ?_
    refine z_icmp_ge C 56 26 d_K_fillFileWithoutWinner_23 (by decide) rfl (fun c_23 => ?_) (fun c_23 => ?_)
    · refine z_aload_n C 57 d_K_fillFileWithoutWinner_56 rfl rfl ?_
      refine z_iload_n C 58 d_K_fillFileWithoutWinner_57 rfl rfl ?_
      refine z_iload_n C 59 d_K_fillFileWithoutWinner_58 rfl rfl ?_
      refine z_iload C 61 d_K_fillFileWithoutWinner_59 rfl rfl ?_
      refine z_iconst C 0 62 d_K_fillFileWithoutWinner_61 rfl (by decide) ?_
      refine z_goA C (z_V C kc_K_76 (c_K_put G l a S v1 v2 v4 0) (st := []) 0 0 rfl rfl rfl rfl (Nat.le_of_ble_eq_true rfl) ⟨⟨Nat.le_of_ble_eq_true rfl, Nat.le_of_ble_eq_true rfl⟩, Nat.le_of_ble_eq_true rfl, Nat.le_of_ble_eq_true rfl⟩ d_K_fillFileWithoutWinner_62) [] 65 rfl rfl ?_
      exact z_vret C hlk hr d_K_fillFileWithoutWinner_65 (by rw [show L_K_fillFileWithoutWinner_20 (n + 1) S v1 v2 v3 v4 v5 = (F_K_put S v1 v2 v4 0) from by rw [L_K_fillFileWithoutWinner_20, if_pos c_23]] at hq; exact hq)
    · refine z_iload C 28 d_K_fillFileWithoutWinner_26 rfl rfl ?_
      refine z_iload_n C 29 d_K_fillFileWithoutWinner_28 rfl rfl ?_
      refine z_iconst C 2 30 d_K_fillFileWithoutWinner_29 rfl (by decide) ?_
      refine z_iload C 32 d_K_fillFileWithoutWinner_30 rfl rfl ?_
      refine z_imul C 33 d_K_fillFileWithoutWinner_32 rfl ?_
      refine z_ishl C 34 d_K_fillFileWithoutWinner_33 rfl ?_
      refine z_iadd C 35 d_K_fillFileWithoutWinner_34 rfl ?_
      refine z_istore C [(4, .int (v4 + (v3 <<< ((2 * v5) &&& 31)))), (0, .ref (a 0)), (1, .int v1), (2, .int v2), (3, .int v3), (5, .int v5)] 37 d_K_fillFileWithoutWinner_35 rfl (by decide) rfl ?_
      refine z_iload_n C 38 d_K_fillFileWithoutWinner_37 rfl rfl ?_
      refine z_iconst C 2 39 d_K_fillFileWithoutWinner_38 rfl (by decide) ?_
      refine z_icmp_ne C 46 42 d_K_fillFileWithoutWinner_39 (by decide) rfl (fun c_39 => ?_) (fun c_39 => ?_)
      · refine z_iload_n C 47 d_K_fillFileWithoutWinner_46 rfl rfl ?_
        refine z_iconst C 1 48 d_K_fillFileWithoutWinner_47 rfl (by decide) ?_
        refine z_iadd C 49 d_K_fillFileWithoutWinner_48 rfl ?_
        refine z_istore_n C [(3, .int (v3 + 1)), (4, .int (v4 + (v3 <<< ((2 * v5) &&& 31)))), (0, .ref (a 0)), (1, .int v1), (2, .int v2), (5, .int v5)] 50 d_K_fillFileWithoutWinner_49 rfl (by decide) rfl ?_
        refine z_iinc C (v5 + 1) [(5, .int (v5 + 1)), (3, .int (v3 + 1)), (4, .int (v4 + (v3 <<< ((2 * v5) &&& 31)))), (0, .ref (a 0)), (1, .int v1), (2, .int v2)] 53 d_K_fillFileWithoutWinner_50 rfl (by decide) rfl rfl rfl ?_
        refine z_goto C 20 d_K_fillFileWithoutWinner_53 (by decide) ?_
        refine z_lvs [3, 4, 5, 1, 2, 0] [(0, .ref (a 0)), (1, .int v1), (2, .int v2), (3, .int (v3 + 1)), (4, .int (v4 + (v3 <<< ((2 * v5) &&& 31)))), (5, .int (v5 + 1))] rfl ?_
        exact ih S v1 v2 (v3 + 1) (v4 + (v3 <<< ((2 * v5) &&& 31))) (v5 + 1) (zdec c_23 hmu) (by rw [show L_K_fillFileWithoutWinner_20 (n + 1) S v1 v2 v3 v4 v5 = (L_K_fillFileWithoutWinner_20 n S v1 v2 (v3 + 1) (v4 + (v3 <<< ((2 * v5) &&& 31))) (v5 + 1)) from by rw [L_K_fillFileWithoutWinner_20, if_neg c_23, if_neg c_39]] at hq; exact hq)
      · refine z_iconst C 0 43 d_K_fillFileWithoutWinner_42 rfl (by decide) ?_
        refine z_goto C 49 d_K_fillFileWithoutWinner_43 (by decide) ?_
        refine z_istore_n C [(3, .int 0), (4, .int (v4 + (v3 <<< ((2 * v5) &&& 31)))), (0, .ref (a 0)), (1, .int v1), (2, .int v2), (5, .int v5)] 50 d_K_fillFileWithoutWinner_49 rfl (by decide) rfl ?_
        refine z_iinc C (v5 + 1) [(5, .int (v5 + 1)), (3, .int 0), (4, .int (v4 + (v3 <<< ((2 * v5) &&& 31)))), (0, .ref (a 0)), (1, .int v1), (2, .int v2)] 53 d_K_fillFileWithoutWinner_50 rfl (by decide) rfl rfl rfl ?_
        refine z_goto C 20 d_K_fillFileWithoutWinner_53 (by decide) ?_
        refine z_lvs [3, 4, 5, 1, 2, 0] [(0, .ref (a 0)), (1, .int v1), (2, .int v2), (3, .int 0), (4, .int (v4 + (v3 <<< ((2 * v5) &&& 31)))), (5, .int (v5 + 1))] rfl ?_
        exact ih S v1 v2 0 (v4 + (v3 <<< ((2 * v5) &&& 31))) (v5 + 1) (zdec c_23 hmu) (by rw [show L_K_fillFileWithoutWinner_20 (n + 1) S v1 v2 v3 v4 v5 = (L_K_fillFileWithoutWinner_20 n S v1 v2 0 (v4 + (v3 <<< ((2 * v5) &&& 31))) (v5 + 1)) from by rw [L_K_fillFileWithoutWinner_20, if_neg c_23, if_pos c_39]] at hq; exact hq)
def F_K_fillFileWithoutWinner (S : SK) (x1 : Int32) : SK :=
  (L_K_fillFileWithoutWinner_20 ((Int32.toInt (2 + (F_K_next S 4).1) - Int32.toInt 0).toNat + 1) (F_K_next (F_K_next S 4).2 3).2 x1 (2 + (F_K_next S 4).1) (F_K_next (F_K_next S 4).2 3).1 0 0)
set_option maxRecDepth 100000 in
set_option maxHeartbeats 4000000 in
theorem c_K_fillFileWithoutWinner (G : zG) (l : Launch) (a : Nat → Nat) (S : SK) (x1 : Int32)  : zM G l y_K_fillFileWithoutWinner b_K_fillFileWithoutWinner 6 (none) (zR 2 45) [.ref (a 0), .int x1] (wK G a S) (fun r1 w1 => r1 = none ∧ w1 = wK G a (F_K_fillFileWithoutWinner S x1)) := by
  generalize hPost : (fun (r1 : Option Value) (w1 : va_W) => r1 = none ∧ w1 = wK G a (F_K_fillFileWithoutWinner S x1)) = Post
  have hq : Post (none) (wK G a (F_K_fillFileWithoutWinner S x1)) := by rw [← hPost]; exact ⟨rfl, rfl⟩
  clear hPost
  refine zM_of (by decide) (Nat.le_of_ble_eq_true rfl) ?_
  intro p e s m args below meth c C hlk hr hin
  refine z_iconst C 2 1 d_K_fillFileWithoutWinner_0 rfl (by decide) ?_
  refine z_aload_n C 2 d_K_fillFileWithoutWinner_1 rfl rfl ?_
  refine z_iconst C 4 3 d_K_fillFileWithoutWinner_2 rfl (by decide) ?_
  refine z_goA C (z_V C kc_K_72 (c_K_next G l a S 4) (st := [.int 2]) 0 0 rfl rfl rfl rfl (Nat.le_of_ble_eq_true rfl) ⟨⟨Nat.le_of_ble_eq_true rfl, Nat.le_of_ble_eq_true rfl⟩, Nat.le_of_ble_eq_true rfl, Nat.le_of_ble_eq_true rfl⟩ d_K_fillFileWithoutWinner_3) [.int (F_K_next S 4).1, .int 2] 6 rfl rfl ?_
  refine z_iadd C 7 d_K_fillFileWithoutWinner_6 rfl ?_
  refine z_istore_n C [(2, .int (2 + (F_K_next S 4).1)), (0, .ref (a 0)), (1, .int x1)] 8 d_K_fillFileWithoutWinner_7 rfl (by decide) rfl ?_
  refine z_aload_n C 9 d_K_fillFileWithoutWinner_8 rfl rfl ?_
  refine z_iconst C 3 10 d_K_fillFileWithoutWinner_9 rfl (by decide) ?_
  refine z_goA C (z_V C kc_K_72 (c_K_next G l a (F_K_next S 4).2 3) (st := []) 0 0 rfl rfl rfl rfl (Nat.le_of_ble_eq_true rfl) ⟨⟨Nat.le_of_ble_eq_true rfl, Nat.le_of_ble_eq_true rfl⟩, Nat.le_of_ble_eq_true rfl, Nat.le_of_ble_eq_true rfl⟩ d_K_fillFileWithoutWinner_10) [.int (F_K_next (F_K_next S 4).2 3).1] 13 rfl rfl ?_
  refine z_istore_n C [(3, .int (F_K_next (F_K_next S 4).2 3).1), (2, .int (2 + (F_K_next S 4).1)), (0, .ref (a 0)), (1, .int x1)] 14 d_K_fillFileWithoutWinner_13 rfl (by decide) rfl ?_
  refine z_iconst C 0 15 d_K_fillFileWithoutWinner_14 rfl (by decide) ?_
  refine z_istore C [(4, .int 0), (3, .int (F_K_next (F_K_next S 4).2 3).1), (2, .int (2 + (F_K_next S 4).1)), (0, .ref (a 0)), (1, .int x1)] 17 d_K_fillFileWithoutWinner_15 rfl (by decide) rfl ?_
  refine z_iconst C 0 18 d_K_fillFileWithoutWinner_17 rfl (by decide) ?_
  refine z_istore C [(5, .int 0), (4, .int 0), (3, .int (F_K_next (F_K_next S 4).2 3).1), (2, .int (2 + (F_K_next S 4).1)), (0, .ref (a 0)), (1, .int x1)] 20 d_K_fillFileWithoutWinner_18 rfl (by decide) rfl ?_
  refine z_lvs [4, 5, 3, 2, 1, 0] [(0, .ref (a 0)), (1, .int x1), (2, .int (2 + (F_K_next S 4).1)), (3, .int (F_K_next (F_K_next S 4).2 3).1), (4, .int 0), (5, .int 0)] rfl ?_
  exact l_K_fillFileWithoutWinner_20 G l a C hlk hr _ (F_K_next (F_K_next S 4).2 3).2 x1 (2 + (F_K_next S 4).1) (F_K_next (F_K_next S 4).2 3).1 0 0 (Nat.lt_succ_self _) (by rw [show F_K_fillFileWithoutWinner S x1 = (L_K_fillFileWithoutWinner_20 ((Int32.toInt (2 + (F_K_next S 4).1) - Int32.toInt 0).toNat + 1) (F_K_next (F_K_next S 4).2 3).2 x1 (2 + (F_K_next S 4).1) (F_K_next (F_K_next S 4).2 3).1 0 0) from by rw [F_K_fillFileWithoutWinner]] at hq; exact hq)

def F_K_fillFile (S : SK) (x1 : Int32) : SK :=
  if (x1 - x1 / 2 * 2) = 0 then
    (F_K_fillFileWithWinner S x1)
  else
    (F_K_fillFileWithoutWinner S x1)
set_option maxRecDepth 100000 in
set_option maxHeartbeats 4000000 in
theorem c_K_fillFile (G : zG) (l : Launch) (a : Nat → Nat) (S : SK) (x1 : Int32)  : zM G l y_K_fillFile b_K_fillFile 2 (none) (zR 3 72) [.ref (a 0), .int x1] (wK G a S) (fun r1 w1 => r1 = none ∧ w1 = wK G a (F_K_fillFile S x1)) := by
  generalize hPost : (fun (r1 : Option Value) (w1 : va_W) => r1 = none ∧ w1 = wK G a (F_K_fillFile S x1)) = Post
  have hq : Post (none) (wK G a (F_K_fillFile S x1)) := by rw [← hPost]; exact ⟨rfl, rfl⟩
  clear hPost
  refine zM_of (by decide) (Nat.le_of_ble_eq_true rfl) ?_
  intro p e s m args below meth c C hlk hr hin
  refine z_iload_n C 1 d_K_fillFile_0 rfl rfl ?_
  refine z_iconst C 2 2 d_K_fillFile_1 rfl (by decide) ?_
  refine z_irem C 3 d_K_fillFile_2 rfl (by decide) ?_
  refine z_if_ne C 14 6 d_K_fillFile_3 (by decide) rfl (fun c_3 => ?_) (fun c_3 => ?_)
  · refine z_aload_n C 15 d_K_fillFile_14 rfl rfl ?_
    refine z_iload_n C 16 d_K_fillFile_15 rfl rfl ?_
    refine z_goA C (z_V C kc_K_96 (c_K_fillFileWithoutWinner G l a S x1) (st := []) 0 0 rfl rfl rfl rfl (Nat.le_of_ble_eq_true rfl) ⟨⟨Nat.le_of_ble_eq_true rfl, Nat.le_of_ble_eq_true rfl⟩, Nat.le_of_ble_eq_true rfl, Nat.le_of_ble_eq_true rfl⟩ d_K_fillFile_16) [] 19 rfl rfl ?_
    exact z_vret C hlk hr d_K_fillFile_19 (by rw [show F_K_fillFile S x1 = (F_K_fillFileWithoutWinner S x1) from by rw [F_K_fillFile, if_neg c_3]] at hq; exact hq)
  · refine z_aload_n C 7 d_K_fillFile_6 rfl rfl ?_
    refine z_iload_n C 8 d_K_fillFile_7 rfl rfl ?_
    refine z_goA C (z_V C kc_K_93 (c_K_fillFileWithWinner G l a S x1) (st := []) 0 0 rfl rfl rfl rfl (Nat.le_of_ble_eq_true rfl) ⟨⟨Nat.le_of_ble_eq_true rfl, Nat.le_of_ble_eq_true rfl⟩, Nat.le_of_ble_eq_true rfl, Nat.le_of_ble_eq_true rfl⟩ d_K_fillFile_8) [] 11 rfl rfl ?_
    refine z_goto C 19 d_K_fillFile_11 (by decide) ?_
    exact z_vret C hlk hr d_K_fillFile_19 (by rw [show F_K_fillFile S x1 = (F_K_fillFileWithWinner S x1) from by rw [F_K_fillFile, if_pos c_3]] at hq; exact hq)

def F_K_fillPattern (S : SK) (x1 : Int32) : SK :=
  if 1 ≤ (1 + (F_K_next (F_K_next S 1000).2 60).1) then
    (F_K_put (F_K_next (F_K_next (F_K_next S 1000).2 60).2 (((1500 - (F_K_next S 1000).1) / (1 + (F_K_next (F_K_next S 1000).2 60).1)) + 1)).2 x1 (F_K_next S 1000).1 (1 + (F_K_next (F_K_next S 1000).2 60).1) (1 + (F_K_next (F_K_next (F_K_next S 1000).2 60).2 (((1500 - (F_K_next S 1000).1) / (1 + (F_K_next (F_K_next S 1000).2 60).1)) + 1)).1))
  else
    (F_K_put (F_K_next (F_K_next (F_K_next S 1000).2 60).2 (0 + 1)).2 x1 (F_K_next S 1000).1 (1 + (F_K_next (F_K_next S 1000).2 60).1) (1 + (F_K_next (F_K_next (F_K_next S 1000).2 60).2 (0 + 1)).1))
set_option maxRecDepth 100000 in
set_option maxHeartbeats 4000000 in
theorem c_K_fillPattern (G : zG) (l : Launch) (a : Nat → Nat) (S : SK) (x1 : Int32)  : zM G l y_K_fillPattern b_K_fillPattern 5 (none) (zR 2 45) [.ref (a 0), .int x1] (wK G a S) (fun r1 w1 => r1 = none ∧ w1 = wK G a (F_K_fillPattern S x1)) := by
  generalize hPost : (fun (r1 : Option Value) (w1 : va_W) => r1 = none ∧ w1 = wK G a (F_K_fillPattern S x1)) = Post
  have hq : Post (none) (wK G a (F_K_fillPattern S x1)) := by rw [← hPost]; exact ⟨rfl, rfl⟩
  clear hPost
  refine zM_of (by decide) (Nat.le_of_ble_eq_true rfl) ?_
  intro p e s m args below meth c C hlk hr hin
  refine z_aload_n C 1 d_K_fillPattern_0 rfl rfl ?_
  refine z_sipush C 1000 4 d_K_fillPattern_1 rfl (by decide) ?_
  refine z_goA C (z_V C kc_K_72 (c_K_next G l a S 1000) (st := []) 0 0 rfl rfl rfl rfl (Nat.le_of_ble_eq_true rfl) ⟨⟨Nat.le_of_ble_eq_true rfl, Nat.le_of_ble_eq_true rfl⟩, Nat.le_of_ble_eq_true rfl, Nat.le_of_ble_eq_true rfl⟩ d_K_fillPattern_4) [.int (F_K_next S 1000).1] 7 rfl rfl ?_
  refine z_istore_n C [(2, .int (F_K_next S 1000).1), (0, .ref (a 0)), (1, .int x1)] 8 d_K_fillPattern_7 rfl (by decide) rfl ?_
  refine z_iconst C 1 9 d_K_fillPattern_8 rfl (by decide) ?_
  refine z_aload_n C 10 d_K_fillPattern_9 rfl rfl ?_
  refine z_bipush C 60 12 d_K_fillPattern_10 rfl (by decide) ?_
  refine z_goA C (z_V C kc_K_72 (c_K_next G l a (F_K_next S 1000).2 60) (st := [.int 1]) 0 0 rfl rfl rfl rfl (Nat.le_of_ble_eq_true rfl) ⟨⟨Nat.le_of_ble_eq_true rfl, Nat.le_of_ble_eq_true rfl⟩, Nat.le_of_ble_eq_true rfl, Nat.le_of_ble_eq_true rfl⟩ d_K_fillPattern_12) [.int (F_K_next (F_K_next S 1000).2 60).1, .int 1] 15 rfl rfl ?_
  refine z_iadd C 16 d_K_fillPattern_15 rfl ?_
  refine z_istore_n C [(3, .int (1 + (F_K_next (F_K_next S 1000).2 60).1)), (2, .int (F_K_next S 1000).1), (0, .ref (a 0)), (1, .int x1)] 17 d_K_fillPattern_16 rfl (by decide) rfl ?_
  refine z_iload_n C 18 d_K_fillPattern_17 rfl rfl ?_
  refine z_iconst C 1 19 d_K_fillPattern_18 rfl (by decide) ?_
  refine z_icmp_ge C 26 22 d_K_fillPattern_19 (by decide) rfl (fun c_19 => ?_) (fun c_19 => ?_)
  · refine z_sipush C 1500 29 d_K_fillPattern_26 rfl (by decide) ?_
    refine z_iload_n C 30 d_K_fillPattern_29 rfl rfl ?_
    refine z_isub C 31 d_K_fillPattern_30 rfl ?_
    refine z_iload_n C 32 d_K_fillPattern_31 rfl rfl ?_
    refine z_idiv C 33 d_K_fillPattern_32 rfl (kx_ge1 c_19) ?_
    refine z_istore C [(4, .int ((1500 - (F_K_next S 1000).1) / (1 + (F_K_next (F_K_next S 1000).2 60).1))), (3, .int (1 + (F_K_next (F_K_next S 1000).2 60).1)), (2, .int (F_K_next S 1000).1), (0, .ref (a 0)), (1, .int x1)] 35 d_K_fillPattern_33 rfl (by decide) rfl ?_
    refine z_aload_n C 36 d_K_fillPattern_35 rfl rfl ?_
    refine z_iload_n C 37 d_K_fillPattern_36 rfl rfl ?_
    refine z_iload_n C 38 d_K_fillPattern_37 rfl rfl ?_
    refine z_iload_n C 39 d_K_fillPattern_38 rfl rfl ?_
    refine z_iconst C 1 40 d_K_fillPattern_39 rfl (by decide) ?_
    refine z_aload_n C 41 d_K_fillPattern_40 rfl rfl ?_
    refine z_iload C 43 d_K_fillPattern_41 rfl rfl ?_
    refine z_iconst C 1 44 d_K_fillPattern_43 rfl (by decide) ?_
    refine z_iadd C 45 d_K_fillPattern_44 rfl ?_
    refine z_goA C (z_V C kc_K_72 (c_K_next G l a (F_K_next (F_K_next S 1000).2 60).2 (((1500 - (F_K_next S 1000).1) / (1 + (F_K_next (F_K_next S 1000).2 60).1)) + 1)) (st := [.int 1, .int (1 + (F_K_next (F_K_next S 1000).2 60).1), .int (F_K_next S 1000).1, .int x1, .ref (a 0)]) 0 0 rfl rfl rfl rfl (Nat.le_of_ble_eq_true rfl) ⟨⟨Nat.le_of_ble_eq_true rfl, Nat.le_of_ble_eq_true rfl⟩, Nat.le_of_ble_eq_true rfl, Nat.le_of_ble_eq_true rfl⟩ d_K_fillPattern_45) [.int (F_K_next (F_K_next (F_K_next S 1000).2 60).2 (((1500 - (F_K_next S 1000).1) / (1 + (F_K_next (F_K_next S 1000).2 60).1)) + 1)).1, .int 1, .int (1 + (F_K_next (F_K_next S 1000).2 60).1), .int (F_K_next S 1000).1, .int x1, .ref (a 0)] 48 rfl rfl ?_
    refine z_iadd C 49 d_K_fillPattern_48 rfl ?_
    refine z_goA C (z_V C kc_K_76 (c_K_put G l a (F_K_next (F_K_next (F_K_next S 1000).2 60).2 (((1500 - (F_K_next S 1000).1) / (1 + (F_K_next (F_K_next S 1000).2 60).1)) + 1)).2 x1 (F_K_next S 1000).1 (1 + (F_K_next (F_K_next S 1000).2 60).1) (1 + (F_K_next (F_K_next (F_K_next S 1000).2 60).2 (((1500 - (F_K_next S 1000).1) / (1 + (F_K_next (F_K_next S 1000).2 60).1)) + 1)).1)) (st := []) 0 0 rfl rfl rfl rfl (Nat.le_of_ble_eq_true rfl) ⟨⟨Nat.le_of_ble_eq_true rfl, Nat.le_of_ble_eq_true rfl⟩, Nat.le_of_ble_eq_true rfl, Nat.le_of_ble_eq_true rfl⟩ d_K_fillPattern_49) [] 52 rfl rfl ?_
    exact z_vret C hlk hr d_K_fillPattern_52 (by rw [show F_K_fillPattern S x1 = (F_K_put (F_K_next (F_K_next (F_K_next S 1000).2 60).2 (((1500 - (F_K_next S 1000).1) / (1 + (F_K_next (F_K_next S 1000).2 60).1)) + 1)).2 x1 (F_K_next S 1000).1 (1 + (F_K_next (F_K_next S 1000).2 60).1) (1 + (F_K_next (F_K_next (F_K_next S 1000).2 60).2 (((1500 - (F_K_next S 1000).1) / (1 + (F_K_next (F_K_next S 1000).2 60).1)) + 1)).1)) from by rw [F_K_fillPattern, if_pos c_19]] at hq; exact hq)
  · refine z_iconst C 0 23 d_K_fillPattern_22 rfl (by decide) ?_
    refine z_goto C 33 d_K_fillPattern_23 (by decide) ?_
    refine z_istore C [(4, .int 0), (3, .int (1 + (F_K_next (F_K_next S 1000).2 60).1)), (2, .int (F_K_next S 1000).1), (0, .ref (a 0)), (1, .int x1)] 35 d_K_fillPattern_33 rfl (by decide) rfl ?_
    refine z_aload_n C 36 d_K_fillPattern_35 rfl rfl ?_
    refine z_iload_n C 37 d_K_fillPattern_36 rfl rfl ?_
    refine z_iload_n C 38 d_K_fillPattern_37 rfl rfl ?_
    refine z_iload_n C 39 d_K_fillPattern_38 rfl rfl ?_
    refine z_iconst C 1 40 d_K_fillPattern_39 rfl (by decide) ?_
    refine z_aload_n C 41 d_K_fillPattern_40 rfl rfl ?_
    refine z_iload C 43 d_K_fillPattern_41 rfl rfl ?_
    refine z_iconst C 1 44 d_K_fillPattern_43 rfl (by decide) ?_
    refine z_iadd C 45 d_K_fillPattern_44 rfl ?_
    refine z_goA C (z_V C kc_K_72 (c_K_next G l a (F_K_next (F_K_next S 1000).2 60).2 (0 + 1)) (st := [.int 1, .int (1 + (F_K_next (F_K_next S 1000).2 60).1), .int (F_K_next S 1000).1, .int x1, .ref (a 0)]) 0 0 rfl rfl rfl rfl (Nat.le_of_ble_eq_true rfl) ⟨⟨Nat.le_of_ble_eq_true rfl, Nat.le_of_ble_eq_true rfl⟩, Nat.le_of_ble_eq_true rfl, Nat.le_of_ble_eq_true rfl⟩ d_K_fillPattern_45) [.int (F_K_next (F_K_next (F_K_next S 1000).2 60).2 (0 + 1)).1, .int 1, .int (1 + (F_K_next (F_K_next S 1000).2 60).1), .int (F_K_next S 1000).1, .int x1, .ref (a 0)] 48 rfl rfl ?_
    refine z_iadd C 49 d_K_fillPattern_48 rfl ?_
    refine z_goA C (z_V C kc_K_76 (c_K_put G l a (F_K_next (F_K_next (F_K_next S 1000).2 60).2 (0 + 1)).2 x1 (F_K_next S 1000).1 (1 + (F_K_next (F_K_next S 1000).2 60).1) (1 + (F_K_next (F_K_next (F_K_next S 1000).2 60).2 (0 + 1)).1)) (st := []) 0 0 rfl rfl rfl rfl (Nat.le_of_ble_eq_true rfl) ⟨⟨Nat.le_of_ble_eq_true rfl, Nat.le_of_ble_eq_true rfl⟩, Nat.le_of_ble_eq_true rfl, Nat.le_of_ble_eq_true rfl⟩ d_K_fillPattern_49) [] 52 rfl rfl ?_
    exact z_vret C hlk hr d_K_fillPattern_52 (by rw [show F_K_fillPattern S x1 = (F_K_put (F_K_next (F_K_next (F_K_next S 1000).2 60).2 (0 + 1)).2 x1 (F_K_next S 1000).1 (1 + (F_K_next (F_K_next S 1000).2 60).1) (1 + (F_K_next (F_K_next (F_K_next S 1000).2 60).2 (0 + 1)).1)) from by rw [F_K_fillPattern, if_neg c_19]] at hq; exact hq)

def F_K_fillLine (S : SK) (x1 : Int32) : SK :=
  if (F_K_next (F_K_next (F_K_next S 9).2 1000).2 4).1 = 0 then
    (F_K_put (F_K_next (F_K_next (F_K_next (F_K_next S 9).2 1000).2 4).2 3).2 x1 (1 + (F_K_next S 9).1) (F_K_next (F_K_next S 9).2 1000).1 (1 + (F_K_next (F_K_next (F_K_next (F_K_next S 9).2 1000).2 4).2 3).1))
  else
    (F_K_put (F_K_next (F_K_next (F_K_next S 9).2 1000).2 4).2 x1 (1 + (F_K_next S 9).1) (F_K_next (F_K_next S 9).2 1000).1 0)
set_option maxRecDepth 100000 in
set_option maxHeartbeats 4000000 in
theorem c_K_fillLine (G : zG) (l : Launch) (a : Nat → Nat) (S : SK) (x1 : Int32)  : zM G l y_K_fillLine b_K_fillLine 5 (none) (zR 2 45) [.ref (a 0), .int x1] (wK G a S) (fun r1 w1 => r1 = none ∧ w1 = wK G a (F_K_fillLine S x1)) := by
  generalize hPost : (fun (r1 : Option Value) (w1 : va_W) => r1 = none ∧ w1 = wK G a (F_K_fillLine S x1)) = Post
  have hq : Post (none) (wK G a (F_K_fillLine S x1)) := by rw [← hPost]; exact ⟨rfl, rfl⟩
  clear hPost
  refine zM_of (by decide) (Nat.le_of_ble_eq_true rfl) ?_
  intro p e s m args below meth c C hlk hr hin
  refine z_iconst C 1 1 d_K_fillLine_0 rfl (by decide) ?_
  refine z_aload_n C 2 d_K_fillLine_1 rfl rfl ?_
  refine z_bipush C 9 4 d_K_fillLine_2 rfl (by decide) ?_
  refine z_goA C (z_V C kc_K_72 (c_K_next G l a S 9) (st := [.int 1]) 0 0 rfl rfl rfl rfl (Nat.le_of_ble_eq_true rfl) ⟨⟨Nat.le_of_ble_eq_true rfl, Nat.le_of_ble_eq_true rfl⟩, Nat.le_of_ble_eq_true rfl, Nat.le_of_ble_eq_true rfl⟩ d_K_fillLine_4) [.int (F_K_next S 9).1, .int 1] 7 rfl rfl ?_
  refine z_iadd C 8 d_K_fillLine_7 rfl ?_
  refine z_istore_n C [(2, .int (1 + (F_K_next S 9).1)), (0, .ref (a 0)), (1, .int x1)] 9 d_K_fillLine_8 rfl (by decide) rfl ?_
  refine z_aload_n C 10 d_K_fillLine_9 rfl rfl ?_
  refine z_sipush C 1000 13 d_K_fillLine_10 rfl (by decide) ?_
  refine z_goA C (z_V C kc_K_72 (c_K_next G l a (F_K_next S 9).2 1000) (st := []) 0 0 rfl rfl rfl rfl (Nat.le_of_ble_eq_true rfl) ⟨⟨Nat.le_of_ble_eq_true rfl, Nat.le_of_ble_eq_true rfl⟩, Nat.le_of_ble_eq_true rfl, Nat.le_of_ble_eq_true rfl⟩ d_K_fillLine_13) [.int (F_K_next (F_K_next S 9).2 1000).1] 16 rfl rfl ?_
  refine z_istore_n C [(3, .int (F_K_next (F_K_next S 9).2 1000).1), (2, .int (1 + (F_K_next S 9).1)), (0, .ref (a 0)), (1, .int x1)] 17 d_K_fillLine_16 rfl (by decide) rfl ?_
  refine z_aload_n C 18 d_K_fillLine_17 rfl rfl ?_
  refine z_iconst C 4 19 d_K_fillLine_18 rfl (by decide) ?_
  refine z_goA C (z_V C kc_K_72 (c_K_next G l a (F_K_next (F_K_next S 9).2 1000).2 4) (st := []) 0 0 rfl rfl rfl rfl (Nat.le_of_ble_eq_true rfl) ⟨⟨Nat.le_of_ble_eq_true rfl, Nat.le_of_ble_eq_true rfl⟩, Nat.le_of_ble_eq_true rfl, Nat.le_of_ble_eq_true rfl⟩ d_K_fillLine_19) [.int (F_K_next (F_K_next (F_K_next S 9).2 1000).2 4).1] 22 rfl rfl ?_
  refine z_if_ne C 35 25 d_K_fillLine_22 (by decide) rfl (fun c_22 => ?_) (fun c_22 => ?_)
  · refine z_iconst C 0 36 d_K_fillLine_35 rfl (by decide) ?_
    refine z_istore C [(4, .int 0), (3, .int (F_K_next (F_K_next S 9).2 1000).1), (2, .int (1 + (F_K_next S 9).1)), (0, .ref (a 0)), (1, .int x1)] 38 d_K_fillLine_36 rfl (by decide) rfl ?_
    refine z_aload_n C 39 d_K_fillLine_38 rfl rfl ?_
    refine z_iload_n C 40 d_K_fillLine_39 rfl rfl ?_
    refine z_iload_n C 41 d_K_fillLine_40 rfl rfl ?_
    refine z_iload_n C 42 d_K_fillLine_41 rfl rfl ?_
    refine z_iload C 44 d_K_fillLine_42 rfl rfl ?_
    refine z_goA C (z_V C kc_K_76 (c_K_put G l a (F_K_next (F_K_next (F_K_next S 9).2 1000).2 4).2 x1 (1 + (F_K_next S 9).1) (F_K_next (F_K_next S 9).2 1000).1 0) (st := []) 0 0 rfl rfl rfl rfl (Nat.le_of_ble_eq_true rfl) ⟨⟨Nat.le_of_ble_eq_true rfl, Nat.le_of_ble_eq_true rfl⟩, Nat.le_of_ble_eq_true rfl, Nat.le_of_ble_eq_true rfl⟩ d_K_fillLine_44) [] 47 rfl rfl ?_
    exact z_vret C hlk hr d_K_fillLine_47 (by rw [show F_K_fillLine S x1 = (F_K_put (F_K_next (F_K_next (F_K_next S 9).2 1000).2 4).2 x1 (1 + (F_K_next S 9).1) (F_K_next (F_K_next S 9).2 1000).1 0) from by rw [F_K_fillLine, if_neg c_22]] at hq; exact hq)
  · refine z_iconst C 1 26 d_K_fillLine_25 rfl (by decide) ?_
    refine z_aload_n C 27 d_K_fillLine_26 rfl rfl ?_
    refine z_iconst C 3 28 d_K_fillLine_27 rfl (by decide) ?_
    refine z_goA C (z_V C kc_K_72 (c_K_next G l a (F_K_next (F_K_next (F_K_next S 9).2 1000).2 4).2 3) (st := [.int 1]) 0 0 rfl rfl rfl rfl (Nat.le_of_ble_eq_true rfl) ⟨⟨Nat.le_of_ble_eq_true rfl, Nat.le_of_ble_eq_true rfl⟩, Nat.le_of_ble_eq_true rfl, Nat.le_of_ble_eq_true rfl⟩ d_K_fillLine_28) [.int (F_K_next (F_K_next (F_K_next (F_K_next S 9).2 1000).2 4).2 3).1, .int 1] 31 rfl rfl ?_
    refine z_iadd C 32 d_K_fillLine_31 rfl ?_
    refine z_goto C 36 d_K_fillLine_32 (by decide) ?_
    refine z_istore C [(4, .int (1 + (F_K_next (F_K_next (F_K_next (F_K_next S 9).2 1000).2 4).2 3).1)), (3, .int (F_K_next (F_K_next S 9).2 1000).1), (2, .int (1 + (F_K_next S 9).1)), (0, .ref (a 0)), (1, .int x1)] 38 d_K_fillLine_36 rfl (by decide) rfl ?_
    refine z_aload_n C 39 d_K_fillLine_38 rfl rfl ?_
    refine z_iload_n C 40 d_K_fillLine_39 rfl rfl ?_
    refine z_iload_n C 41 d_K_fillLine_40 rfl rfl ?_
    refine z_iload_n C 42 d_K_fillLine_41 rfl rfl ?_
    refine z_iload C 44 d_K_fillLine_42 rfl rfl ?_
    refine z_goA C (z_V C kc_K_76 (c_K_put G l a (F_K_next (F_K_next (F_K_next (F_K_next S 9).2 1000).2 4).2 3).2 x1 (1 + (F_K_next S 9).1) (F_K_next (F_K_next S 9).2 1000).1 (1 + (F_K_next (F_K_next (F_K_next (F_K_next S 9).2 1000).2 4).2 3).1)) (st := []) 0 0 rfl rfl rfl rfl (Nat.le_of_ble_eq_true rfl) ⟨⟨Nat.le_of_ble_eq_true rfl, Nat.le_of_ble_eq_true rfl⟩, Nat.le_of_ble_eq_true rfl, Nat.le_of_ble_eq_true rfl⟩ d_K_fillLine_44) [] 47 rfl rfl ?_
    exact z_vret C hlk hr d_K_fillLine_47 (by rw [show F_K_fillLine S x1 = (F_K_put (F_K_next (F_K_next (F_K_next (F_K_next S 9).2 1000).2 4).2 3).2 x1 (1 + (F_K_next S 9).1) (F_K_next (F_K_next S 9).2 1000).1 (1 + (F_K_next (F_K_next (F_K_next (F_K_next S 9).2 1000).2 4).2 3).1)) from by rw [F_K_fillLine, if_pos c_22]] at hq; exact hq)

def F_K_fillReader (S : SK) (x1 : Int32) : SK :=
  if x1 ≤ 0 then
    (F_K_put (F_K_next (F_K_next S 5).2 10).2 x1 (F_K_next S 5).1 (-1) ((100 + (10 * x1)) + (F_K_next (F_K_next S 5).2 10).1))
  else
    if (F_K_next (F_K_next S 5).2 3).1 = 0 then
      if (F_K_next (F_K_next (F_K_next S 5).2 3).2 x1).1 = (-1) then
        (F_K_put (F_K_next (F_K_next (F_K_next (F_K_next S 5).2 3).2 x1).2 10).2 x1 (F_K_next S 5).1 (F_K_next (F_K_next (F_K_next S 5).2 3).2 x1).1 ((100 + (10 * x1)) + (F_K_next (F_K_next (F_K_next (F_K_next S 5).2 3).2 x1).2 10).1))
      else
        if (F_K_number (F_K_next (F_K_next (F_K_next S 5).2 3).2 x1).2 (F_K_next (F_K_next (F_K_next S 5).2 3).2 x1).1 1) = (-1) then
          (F_K_put (F_K_next (F_K_next (F_K_next (F_K_next S 5).2 3).2 x1).2 10).2 x1 (F_K_next S 5).1 (F_K_next (F_K_next (F_K_next S 5).2 3).2 x1).1 ((100 + (10 * x1)) + (F_K_next (F_K_next (F_K_next (F_K_next S 5).2 3).2 x1).2 10).1))
        else
          (F_K_put (F_K_next (F_K_next (F_K_next (F_K_next S 5).2 3).2 x1).2 10).2 x1 (F_K_next S 5).1 (-1) ((100 + (10 * x1)) + (F_K_next (F_K_next (F_K_next (F_K_next S 5).2 3).2 x1).2 10).1))
    else
      (F_K_put (F_K_next (F_K_next (F_K_next S 5).2 3).2 10).2 x1 (F_K_next S 5).1 (-1) ((100 + (10 * x1)) + (F_K_next (F_K_next (F_K_next S 5).2 3).2 10).1))
set_option maxRecDepth 100000 in
set_option maxHeartbeats 4000000 in
theorem c_K_fillReader (G : zG) (l : Launch) (a : Nat → Nat) (S : SK) (x1 : Int32)  : zM G l y_K_fillReader b_K_fillReader 4 (none) (zR 2 45) [.ref (a 0), .int x1] (wK G a S) (fun r1 w1 => r1 = none ∧ w1 = wK G a (F_K_fillReader S x1)) := by
  generalize hPost : (fun (r1 : Option Value) (w1 : va_W) => r1 = none ∧ w1 = wK G a (F_K_fillReader S x1)) = Post
  have hq : Post (none) (wK G a (F_K_fillReader S x1)) := by rw [← hPost]; exact ⟨rfl, rfl⟩
  clear hPost
  refine zM_of (by decide) (Nat.le_of_ble_eq_true rfl) ?_
  intro p e s m args below meth c C hlk hr hin
  refine z_aload_n C 1 d_K_fillReader_0 rfl rfl ?_
  refine z_iconst C 5 2 d_K_fillReader_1 rfl (by decide) ?_
  refine z_goA C (z_V C kc_K_72 (c_K_next G l a S 5) (st := []) 0 0 rfl rfl rfl rfl (Nat.le_of_ble_eq_true rfl) ⟨⟨Nat.le_of_ble_eq_true rfl, Nat.le_of_ble_eq_true rfl⟩, Nat.le_of_ble_eq_true rfl, Nat.le_of_ble_eq_true rfl⟩ d_K_fillReader_2) [.int (F_K_next S 5).1] 5 rfl rfl ?_
  refine z_istore_n C [(2, .int (F_K_next S 5).1), (0, .ref (a 0)), (1, .int x1)] 6 d_K_fillReader_5 rfl (by decide) rfl ?_
  refine z_iload_n C 7 d_K_fillReader_6 rfl rfl ?_
  refine z_if_le C 26 10 d_K_fillReader_7 (by decide) rfl (fun c_7 => ?_) (fun c_7 => ?_)
  · refine z_iconst C (-1) 27 d_K_fillReader_26 rfl (by decide) ?_
    refine z_istore_n C [(3, .int (-1)), (2, .int (F_K_next S 5).1), (0, .ref (a 0)), (1, .int x1)] 28 d_K_fillReader_27 rfl (by decide) rfl ?_
    refine z_iload_n C 29 d_K_fillReader_28 rfl rfl ?_
    refine z_iconst C (-1) 30 d_K_fillReader_29 rfl (by decide) ?_
    refine z_icmp_eq C 45 33 d_K_fillReader_30 (by decide) rfl (fun c_30 => ?_) (fun c_30 => ?_)
    · refine z_aload_n C 46 d_K_fillReader_45 rfl rfl ?_
      refine z_iload_n C 47 d_K_fillReader_46 rfl rfl ?_
      refine z_iload_n C 48 d_K_fillReader_47 rfl rfl ?_
      refine z_iload_n C 49 d_K_fillReader_48 rfl rfl ?_
      refine z_bipush C 100 51 d_K_fillReader_49 rfl (by decide) ?_
      refine z_bipush C 10 53 d_K_fillReader_51 rfl (by decide) ?_
      refine z_iload_n C 54 d_K_fillReader_53 rfl rfl ?_
      refine z_imul C 55 d_K_fillReader_54 rfl ?_
      refine z_iadd C 56 d_K_fillReader_55 rfl ?_
      refine z_aload_n C 57 d_K_fillReader_56 rfl rfl ?_
      refine z_bipush C 10 59 d_K_fillReader_57 rfl (by decide) ?_
      refine z_goA C (z_V C kc_K_72 (c_K_next G l a (F_K_next S 5).2 10) (st := [.int (100 + (10 * x1)), .int (-1), .int (F_K_next S 5).1, .int x1, .ref (a 0)]) 0 0 rfl rfl rfl rfl (Nat.le_of_ble_eq_true rfl) ⟨⟨Nat.le_of_ble_eq_true rfl, Nat.le_of_ble_eq_true rfl⟩, Nat.le_of_ble_eq_true rfl, Nat.le_of_ble_eq_true rfl⟩ d_K_fillReader_59) [.int (F_K_next (F_K_next S 5).2 10).1, .int (100 + (10 * x1)), .int (-1), .int (F_K_next S 5).1, .int x1, .ref (a 0)] 62 rfl rfl ?_
      refine z_iadd C 63 d_K_fillReader_62 rfl ?_
      refine z_goA C (z_V C kc_K_76 (c_K_put G l a (F_K_next (F_K_next S 5).2 10).2 x1 (F_K_next S 5).1 (-1) ((100 + (10 * x1)) + (F_K_next (F_K_next S 5).2 10).1)) (st := []) 0 0 rfl rfl rfl rfl (Nat.le_of_ble_eq_true rfl) ⟨⟨Nat.le_of_ble_eq_true rfl, Nat.le_of_ble_eq_true rfl⟩, Nat.le_of_ble_eq_true rfl, Nat.le_of_ble_eq_true rfl⟩ d_K_fillReader_63) [] 66 rfl rfl ?_
      exact z_vret C hlk hr d_K_fillReader_66 (by rw [show F_K_fillReader S x1 = (F_K_put (F_K_next (F_K_next S 5).2 10).2 x1 (F_K_next S 5).1 (-1) ((100 + (10 * x1)) + (F_K_next (F_K_next S 5).2 10).1)) from by rw [F_K_fillReader, if_pos c_7]] at hq; exact hq)
    · exact absurd c_30 (by decide)
  · refine z_aload_n C 11 d_K_fillReader_10 rfl rfl ?_
    refine z_iconst C 3 12 d_K_fillReader_11 rfl (by decide) ?_
    refine z_goA C (z_V C kc_K_72 (c_K_next G l a (F_K_next S 5).2 3) (st := []) 0 0 rfl rfl rfl rfl (Nat.le_of_ble_eq_true rfl) ⟨⟨Nat.le_of_ble_eq_true rfl, Nat.le_of_ble_eq_true rfl⟩, Nat.le_of_ble_eq_true rfl, Nat.le_of_ble_eq_true rfl⟩ d_K_fillReader_12) [.int (F_K_next (F_K_next S 5).2 3).1] 15 rfl rfl ?_
    refine z_if_ne C 26 18 d_K_fillReader_15 (by decide) rfl (fun c_15 => ?_) (fun c_15 => ?_)
    · refine z_iconst C (-1) 27 d_K_fillReader_26 rfl (by decide) ?_
      refine z_istore_n C [(3, .int (-1)), (2, .int (F_K_next S 5).1), (0, .ref (a 0)), (1, .int x1)] 28 d_K_fillReader_27 rfl (by decide) rfl ?_
      refine z_iload_n C 29 d_K_fillReader_28 rfl rfl ?_
      refine z_iconst C (-1) 30 d_K_fillReader_29 rfl (by decide) ?_
      refine z_icmp_eq C 45 33 d_K_fillReader_30 (by decide) rfl (fun c_30 => ?_) (fun c_30 => ?_)
      · refine z_aload_n C 46 d_K_fillReader_45 rfl rfl ?_
        refine z_iload_n C 47 d_K_fillReader_46 rfl rfl ?_
        refine z_iload_n C 48 d_K_fillReader_47 rfl rfl ?_
        refine z_iload_n C 49 d_K_fillReader_48 rfl rfl ?_
        refine z_bipush C 100 51 d_K_fillReader_49 rfl (by decide) ?_
        refine z_bipush C 10 53 d_K_fillReader_51 rfl (by decide) ?_
        refine z_iload_n C 54 d_K_fillReader_53 rfl rfl ?_
        refine z_imul C 55 d_K_fillReader_54 rfl ?_
        refine z_iadd C 56 d_K_fillReader_55 rfl ?_
        refine z_aload_n C 57 d_K_fillReader_56 rfl rfl ?_
        refine z_bipush C 10 59 d_K_fillReader_57 rfl (by decide) ?_
        refine z_goA C (z_V C kc_K_72 (c_K_next G l a (F_K_next (F_K_next S 5).2 3).2 10) (st := [.int (100 + (10 * x1)), .int (-1), .int (F_K_next S 5).1, .int x1, .ref (a 0)]) 0 0 rfl rfl rfl rfl (Nat.le_of_ble_eq_true rfl) ⟨⟨Nat.le_of_ble_eq_true rfl, Nat.le_of_ble_eq_true rfl⟩, Nat.le_of_ble_eq_true rfl, Nat.le_of_ble_eq_true rfl⟩ d_K_fillReader_59) [.int (F_K_next (F_K_next (F_K_next S 5).2 3).2 10).1, .int (100 + (10 * x1)), .int (-1), .int (F_K_next S 5).1, .int x1, .ref (a 0)] 62 rfl rfl ?_
        refine z_iadd C 63 d_K_fillReader_62 rfl ?_
        refine z_goA C (z_V C kc_K_76 (c_K_put G l a (F_K_next (F_K_next (F_K_next S 5).2 3).2 10).2 x1 (F_K_next S 5).1 (-1) ((100 + (10 * x1)) + (F_K_next (F_K_next (F_K_next S 5).2 3).2 10).1)) (st := []) 0 0 rfl rfl rfl rfl (Nat.le_of_ble_eq_true rfl) ⟨⟨Nat.le_of_ble_eq_true rfl, Nat.le_of_ble_eq_true rfl⟩, Nat.le_of_ble_eq_true rfl, Nat.le_of_ble_eq_true rfl⟩ d_K_fillReader_63) [] 66 rfl rfl ?_
        exact z_vret C hlk hr d_K_fillReader_66 (by rw [show F_K_fillReader S x1 = (F_K_put (F_K_next (F_K_next (F_K_next S 5).2 3).2 10).2 x1 (F_K_next S 5).1 (-1) ((100 + (10 * x1)) + (F_K_next (F_K_next (F_K_next S 5).2 3).2 10).1)) from by rw [F_K_fillReader, if_neg c_7, if_neg c_15]] at hq; exact hq)
      · exact absurd c_30 (by decide)
    · refine z_aload_n C 19 d_K_fillReader_18 rfl rfl ?_
      refine z_iload_n C 20 d_K_fillReader_19 rfl rfl ?_
      refine z_goA C (z_V C kc_K_72 (c_K_next G l a (F_K_next (F_K_next S 5).2 3).2 x1) (st := []) 0 0 rfl rfl rfl rfl (Nat.le_of_ble_eq_true rfl) ⟨⟨Nat.le_of_ble_eq_true rfl, Nat.le_of_ble_eq_true rfl⟩, Nat.le_of_ble_eq_true rfl, Nat.le_of_ble_eq_true rfl⟩ d_K_fillReader_20) [.int (F_K_next (F_K_next (F_K_next S 5).2 3).2 x1).1] 23 rfl rfl ?_
      refine z_goto C 27 d_K_fillReader_23 (by decide) ?_
      refine z_istore_n C [(3, .int (F_K_next (F_K_next (F_K_next S 5).2 3).2 x1).1), (2, .int (F_K_next S 5).1), (0, .ref (a 0)), (1, .int x1)] 28 d_K_fillReader_27 rfl (by decide) rfl ?_
      refine z_iload_n C 29 d_K_fillReader_28 rfl rfl ?_
      refine z_iconst C (-1) 30 d_K_fillReader_29 rfl (by decide) ?_
      refine z_icmp_eq C 45 33 d_K_fillReader_30 (by decide) rfl (fun c_30 => ?_) (fun c_30 => ?_)
      · refine z_aload_n C 46 d_K_fillReader_45 rfl rfl ?_
        refine z_iload_n C 47 d_K_fillReader_46 rfl rfl ?_
        refine z_iload_n C 48 d_K_fillReader_47 rfl rfl ?_
        refine z_iload_n C 49 d_K_fillReader_48 rfl rfl ?_
        refine z_bipush C 100 51 d_K_fillReader_49 rfl (by decide) ?_
        refine z_bipush C 10 53 d_K_fillReader_51 rfl (by decide) ?_
        refine z_iload_n C 54 d_K_fillReader_53 rfl rfl ?_
        refine z_imul C 55 d_K_fillReader_54 rfl ?_
        refine z_iadd C 56 d_K_fillReader_55 rfl ?_
        refine z_aload_n C 57 d_K_fillReader_56 rfl rfl ?_
        refine z_bipush C 10 59 d_K_fillReader_57 rfl (by decide) ?_
        refine z_goA C (z_V C kc_K_72 (c_K_next G l a (F_K_next (F_K_next (F_K_next S 5).2 3).2 x1).2 10) (st := [.int (100 + (10 * x1)), .int (F_K_next (F_K_next (F_K_next S 5).2 3).2 x1).1, .int (F_K_next S 5).1, .int x1, .ref (a 0)]) 0 0 rfl rfl rfl rfl (Nat.le_of_ble_eq_true rfl) ⟨⟨Nat.le_of_ble_eq_true rfl, Nat.le_of_ble_eq_true rfl⟩, Nat.le_of_ble_eq_true rfl, Nat.le_of_ble_eq_true rfl⟩ d_K_fillReader_59) [.int (F_K_next (F_K_next (F_K_next (F_K_next S 5).2 3).2 x1).2 10).1, .int (100 + (10 * x1)), .int (F_K_next (F_K_next (F_K_next S 5).2 3).2 x1).1, .int (F_K_next S 5).1, .int x1, .ref (a 0)] 62 rfl rfl ?_
        refine z_iadd C 63 d_K_fillReader_62 rfl ?_
        refine z_goA C (z_V C kc_K_76 (c_K_put G l a (F_K_next (F_K_next (F_K_next (F_K_next S 5).2 3).2 x1).2 10).2 x1 (F_K_next S 5).1 (F_K_next (F_K_next (F_K_next S 5).2 3).2 x1).1 ((100 + (10 * x1)) + (F_K_next (F_K_next (F_K_next (F_K_next S 5).2 3).2 x1).2 10).1)) (st := []) 0 0 rfl rfl rfl rfl (Nat.le_of_ble_eq_true rfl) ⟨⟨Nat.le_of_ble_eq_true rfl, Nat.le_of_ble_eq_true rfl⟩, Nat.le_of_ble_eq_true rfl, Nat.le_of_ble_eq_true rfl⟩ d_K_fillReader_63) [] 66 rfl rfl ?_
        exact z_vret C hlk hr d_K_fillReader_66 (by rw [show F_K_fillReader S x1 = (F_K_put (F_K_next (F_K_next (F_K_next (F_K_next S 5).2 3).2 x1).2 10).2 x1 (F_K_next S 5).1 (F_K_next (F_K_next (F_K_next S 5).2 3).2 x1).1 ((100 + (10 * x1)) + (F_K_next (F_K_next (F_K_next (F_K_next S 5).2 3).2 x1).2 10).1)) from by rw [F_K_fillReader, if_neg c_7, if_pos c_15, if_pos c_30]] at hq; exact hq)
      · refine z_aload_n C 34 d_K_fillReader_33 rfl rfl ?_
        refine z_iload_n C 35 d_K_fillReader_34 rfl rfl ?_
        refine z_iconst C 1 36 d_K_fillReader_35 rfl (by decide) ?_
        refine z_goA C (z_V C kc_K_83 (c_K_number G l a (F_K_next (F_K_next (F_K_next S 5).2 3).2 x1).2 (F_K_next (F_K_next (F_K_next S 5).2 3).2 x1).1 1) (st := []) 0 0 rfl rfl rfl rfl (Nat.le_of_ble_eq_true rfl) ⟨⟨Nat.le_of_ble_eq_true rfl, Nat.le_of_ble_eq_true rfl⟩, Nat.le_of_ble_eq_true rfl, Nat.le_of_ble_eq_true rfl⟩ d_K_fillReader_36) [.int (F_K_number (F_K_next (F_K_next (F_K_next S 5).2 3).2 x1).2 (F_K_next (F_K_next (F_K_next S 5).2 3).2 x1).1 1)] 39 rfl rfl ?_
        refine z_iconst C (-1) 40 d_K_fillReader_39 rfl (by decide) ?_
        refine z_icmp_eq C 45 43 d_K_fillReader_40 (by decide) rfl (fun c_40 => ?_) (fun c_40 => ?_)
        · refine z_aload_n C 46 d_K_fillReader_45 rfl rfl ?_
          refine z_iload_n C 47 d_K_fillReader_46 rfl rfl ?_
          refine z_iload_n C 48 d_K_fillReader_47 rfl rfl ?_
          refine z_iload_n C 49 d_K_fillReader_48 rfl rfl ?_
          refine z_bipush C 100 51 d_K_fillReader_49 rfl (by decide) ?_
          refine z_bipush C 10 53 d_K_fillReader_51 rfl (by decide) ?_
          refine z_iload_n C 54 d_K_fillReader_53 rfl rfl ?_
          refine z_imul C 55 d_K_fillReader_54 rfl ?_
          refine z_iadd C 56 d_K_fillReader_55 rfl ?_
          refine z_aload_n C 57 d_K_fillReader_56 rfl rfl ?_
          refine z_bipush C 10 59 d_K_fillReader_57 rfl (by decide) ?_
          refine z_goA C (z_V C kc_K_72 (c_K_next G l a (F_K_next (F_K_next (F_K_next S 5).2 3).2 x1).2 10) (st := [.int (100 + (10 * x1)), .int (F_K_next (F_K_next (F_K_next S 5).2 3).2 x1).1, .int (F_K_next S 5).1, .int x1, .ref (a 0)]) 0 0 rfl rfl rfl rfl (Nat.le_of_ble_eq_true rfl) ⟨⟨Nat.le_of_ble_eq_true rfl, Nat.le_of_ble_eq_true rfl⟩, Nat.le_of_ble_eq_true rfl, Nat.le_of_ble_eq_true rfl⟩ d_K_fillReader_59) [.int (F_K_next (F_K_next (F_K_next (F_K_next S 5).2 3).2 x1).2 10).1, .int (100 + (10 * x1)), .int (F_K_next (F_K_next (F_K_next S 5).2 3).2 x1).1, .int (F_K_next S 5).1, .int x1, .ref (a 0)] 62 rfl rfl ?_
          refine z_iadd C 63 d_K_fillReader_62 rfl ?_
          refine z_goA C (z_V C kc_K_76 (c_K_put G l a (F_K_next (F_K_next (F_K_next (F_K_next S 5).2 3).2 x1).2 10).2 x1 (F_K_next S 5).1 (F_K_next (F_K_next (F_K_next S 5).2 3).2 x1).1 ((100 + (10 * x1)) + (F_K_next (F_K_next (F_K_next (F_K_next S 5).2 3).2 x1).2 10).1)) (st := []) 0 0 rfl rfl rfl rfl (Nat.le_of_ble_eq_true rfl) ⟨⟨Nat.le_of_ble_eq_true rfl, Nat.le_of_ble_eq_true rfl⟩, Nat.le_of_ble_eq_true rfl, Nat.le_of_ble_eq_true rfl⟩ d_K_fillReader_63) [] 66 rfl rfl ?_
          exact z_vret C hlk hr d_K_fillReader_66 (by rw [show F_K_fillReader S x1 = (F_K_put (F_K_next (F_K_next (F_K_next (F_K_next S 5).2 3).2 x1).2 10).2 x1 (F_K_next S 5).1 (F_K_next (F_K_next (F_K_next S 5).2 3).2 x1).1 ((100 + (10 * x1)) + (F_K_next (F_K_next (F_K_next (F_K_next S 5).2 3).2 x1).2 10).1)) from by rw [F_K_fillReader, if_neg c_7, if_pos c_15, if_neg c_30, if_pos c_40]] at hq; exact hq)
        · refine z_iconst C (-1) 44 d_K_fillReader_43 rfl (by decide) ?_
          refine z_istore_n C [(3, .int (-1)), (2, .int (F_K_next S 5).1), (0, .ref (a 0)), (1, .int x1)] 45 d_K_fillReader_44 rfl (by decide) rfl ?_
          refine z_aload_n C 46 d_K_fillReader_45 rfl rfl ?_
          refine z_iload_n C 47 d_K_fillReader_46 rfl rfl ?_
          refine z_iload_n C 48 d_K_fillReader_47 rfl rfl ?_
          refine z_iload_n C 49 d_K_fillReader_48 rfl rfl ?_
          refine z_bipush C 100 51 d_K_fillReader_49 rfl (by decide) ?_
          refine z_bipush C 10 53 d_K_fillReader_51 rfl (by decide) ?_
          refine z_iload_n C 54 d_K_fillReader_53 rfl rfl ?_
          refine z_imul C 55 d_K_fillReader_54 rfl ?_
          refine z_iadd C 56 d_K_fillReader_55 rfl ?_
          refine z_aload_n C 57 d_K_fillReader_56 rfl rfl ?_
          refine z_bipush C 10 59 d_K_fillReader_57 rfl (by decide) ?_
          refine z_goA C (z_V C kc_K_72 (c_K_next G l a (F_K_next (F_K_next (F_K_next S 5).2 3).2 x1).2 10) (st := [.int (100 + (10 * x1)), .int (-1), .int (F_K_next S 5).1, .int x1, .ref (a 0)]) 0 0 rfl rfl rfl rfl (Nat.le_of_ble_eq_true rfl) ⟨⟨Nat.le_of_ble_eq_true rfl, Nat.le_of_ble_eq_true rfl⟩, Nat.le_of_ble_eq_true rfl, Nat.le_of_ble_eq_true rfl⟩ d_K_fillReader_59) [.int (F_K_next (F_K_next (F_K_next (F_K_next S 5).2 3).2 x1).2 10).1, .int (100 + (10 * x1)), .int (-1), .int (F_K_next S 5).1, .int x1, .ref (a 0)] 62 rfl rfl ?_
          refine z_iadd C 63 d_K_fillReader_62 rfl ?_
          refine z_goA C (z_V C kc_K_76 (c_K_put G l a (F_K_next (F_K_next (F_K_next (F_K_next S 5).2 3).2 x1).2 10).2 x1 (F_K_next S 5).1 (-1) ((100 + (10 * x1)) + (F_K_next (F_K_next (F_K_next (F_K_next S 5).2 3).2 x1).2 10).1)) (st := []) 0 0 rfl rfl rfl rfl (Nat.le_of_ble_eq_true rfl) ⟨⟨Nat.le_of_ble_eq_true rfl, Nat.le_of_ble_eq_true rfl⟩, Nat.le_of_ble_eq_true rfl, Nat.le_of_ble_eq_true rfl⟩ d_K_fillReader_63) [] 66 rfl rfl ?_
          exact z_vret C hlk hr d_K_fillReader_66 (by rw [show F_K_fillReader S x1 = (F_K_put (F_K_next (F_K_next (F_K_next (F_K_next S 5).2 3).2 x1).2 10).2 x1 (F_K_next S 5).1 (-1) ((100 + (10 * x1)) + (F_K_next (F_K_next (F_K_next (F_K_next S 5).2 3).2 x1).2 10).1)) from by rw [F_K_fillReader, if_neg c_7, if_pos c_15, if_neg c_30, if_neg c_40]] at hq; exact hq)

def F_K_fillAct (S : SK) (x1 : Int32) : SK :=
  (F_K_put (F_K_next (F_K_next (F_K_next S 6).2 (sK_parts (F_K_next S 6).2)).2 5).2 x1 (F_K_next S 6).1 (F_K_next (F_K_next S 6).2 (sK_parts (F_K_next S 6).2)).1 ((F_K_timeBefore (F_K_next (F_K_next S 6).2 (sK_parts (F_K_next S 6).2)).2 x1) + (F_K_next (F_K_next (F_K_next S 6).2 (sK_parts (F_K_next S 6).2)).2 5).1))
set_option maxRecDepth 100000 in
set_option maxHeartbeats 4000000 in
theorem c_K_fillAct (G : zG) (l : Launch) (a : Nat → Nat) (S : SK) (x1 : Int32)  : zM G l y_K_fillAct b_K_fillAct 4 (none) (zR 3 64) [.ref (a 0), .int x1] (wK G a S) (fun r1 w1 => r1 = none ∧ w1 = wK G a (F_K_fillAct S x1)) := by
  generalize hPost : (fun (r1 : Option Value) (w1 : va_W) => r1 = none ∧ w1 = wK G a (F_K_fillAct S x1)) = Post
  have hq : Post (none) (wK G a (F_K_fillAct S x1)) := by rw [← hPost]; exact ⟨rfl, rfl⟩
  clear hPost
  refine zM_of (by decide) (Nat.le_of_ble_eq_true rfl) ?_
  intro p e s m args below meth c C hlk hr hin
  refine z_aload_n C 1 d_K_fillAct_0 rfl rfl ?_
  refine z_bipush C 6 3 d_K_fillAct_1 rfl (by decide) ?_
  refine z_goA C (z_V C kc_K_72 (c_K_next G l a S 6) (st := []) 0 0 rfl rfl rfl rfl (Nat.le_of_ble_eq_true rfl) ⟨⟨Nat.le_of_ble_eq_true rfl, Nat.le_of_ble_eq_true rfl⟩, Nat.le_of_ble_eq_true rfl, Nat.le_of_ble_eq_true rfl⟩ d_K_fillAct_3) [.int (F_K_next S 6).1] 6 rfl rfl ?_
  refine z_istore_n C [(2, .int (F_K_next S 6).1), (0, .ref (a 0)), (1, .int x1)] 7 d_K_fillAct_6 rfl (by decide) rfl ?_
  refine z_aload_n C 8 d_K_fillAct_7 rfl rfl ?_
  refine z_aload_n C 9 d_K_fillAct_8 rfl rfl ?_
  refine z_get C kf_K_29 0 (v := .int (sK_parts (F_K_next S 6).2)) 12 d_K_fillAct_9 rfl rfl rfl ?_
  refine z_goA C (z_V C kc_K_72 (c_K_next G l a (F_K_next S 6).2 (sK_parts (F_K_next S 6).2)) (st := []) 0 0 rfl rfl rfl rfl (Nat.le_of_ble_eq_true rfl) ⟨⟨Nat.le_of_ble_eq_true rfl, Nat.le_of_ble_eq_true rfl⟩, Nat.le_of_ble_eq_true rfl, Nat.le_of_ble_eq_true rfl⟩ d_K_fillAct_12) [.int (F_K_next (F_K_next S 6).2 (sK_parts (F_K_next S 6).2)).1] 15 rfl rfl ?_
  refine z_istore_n C [(3, .int (F_K_next (F_K_next S 6).2 (sK_parts (F_K_next S 6).2)).1), (2, .int (F_K_next S 6).1), (0, .ref (a 0)), (1, .int x1)] 16 d_K_fillAct_15 rfl (by decide) rfl ?_
  refine z_aload_n C 17 d_K_fillAct_16 rfl rfl ?_
  refine z_iload_n C 18 d_K_fillAct_17 rfl rfl ?_
  refine z_iload_n C 19 d_K_fillAct_18 rfl rfl ?_
  refine z_iload_n C 20 d_K_fillAct_19 rfl rfl ?_
  refine z_aload_n C 21 d_K_fillAct_20 rfl rfl ?_
  refine z_iload_n C 22 d_K_fillAct_21 rfl rfl ?_
  refine z_goA C (z_V C kc_K_99 (c_K_timeBefore G l a (F_K_next (F_K_next S 6).2 (sK_parts (F_K_next S 6).2)).2 x1) (st := [.int (F_K_next (F_K_next S 6).2 (sK_parts (F_K_next S 6).2)).1, .int (F_K_next S 6).1, .int x1, .ref (a 0)]) 0 0 rfl rfl rfl rfl (Nat.le_of_ble_eq_true rfl) ⟨⟨Nat.le_of_ble_eq_true rfl, Nat.le_of_ble_eq_true rfl⟩, Nat.le_of_ble_eq_true rfl, Nat.le_of_ble_eq_true rfl⟩ d_K_fillAct_22) [.int (F_K_timeBefore (F_K_next (F_K_next S 6).2 (sK_parts (F_K_next S 6).2)).2 x1), .int (F_K_next (F_K_next S 6).2 (sK_parts (F_K_next S 6).2)).1, .int (F_K_next S 6).1, .int x1, .ref (a 0)] 25 rfl rfl ?_
  refine z_aload_n C 26 d_K_fillAct_25 rfl rfl ?_
  refine z_iconst C 5 27 d_K_fillAct_26 rfl (by decide) ?_
  refine z_goA C (z_V C kc_K_72 (c_K_next G l a (F_K_next (F_K_next S 6).2 (sK_parts (F_K_next S 6).2)).2 5) (st := [.int (F_K_timeBefore (F_K_next (F_K_next S 6).2 (sK_parts (F_K_next S 6).2)).2 x1), .int (F_K_next (F_K_next S 6).2 (sK_parts (F_K_next S 6).2)).1, .int (F_K_next S 6).1, .int x1, .ref (a 0)]) 0 0 rfl rfl rfl rfl (Nat.le_of_ble_eq_true rfl) ⟨⟨Nat.le_of_ble_eq_true rfl, Nat.le_of_ble_eq_true rfl⟩, Nat.le_of_ble_eq_true rfl, Nat.le_of_ble_eq_true rfl⟩ d_K_fillAct_27) [.int (F_K_next (F_K_next (F_K_next S 6).2 (sK_parts (F_K_next S 6).2)).2 5).1, .int (F_K_timeBefore (F_K_next (F_K_next S 6).2 (sK_parts (F_K_next S 6).2)).2 x1), .int (F_K_next (F_K_next S 6).2 (sK_parts (F_K_next S 6).2)).1, .int (F_K_next S 6).1, .int x1, .ref (a 0)] 30 rfl rfl ?_
  refine z_iadd C 31 d_K_fillAct_30 rfl ?_
  refine z_goA C (z_V C kc_K_76 (c_K_put G l a (F_K_next (F_K_next (F_K_next S 6).2 (sK_parts (F_K_next S 6).2)).2 5).2 x1 (F_K_next S 6).1 (F_K_next (F_K_next S 6).2 (sK_parts (F_K_next S 6).2)).1 ((F_K_timeBefore (F_K_next (F_K_next S 6).2 (sK_parts (F_K_next S 6).2)).2 x1) + (F_K_next (F_K_next (F_K_next S 6).2 (sK_parts (F_K_next S 6).2)).2 5).1)) (st := []) 0 0 rfl rfl rfl rfl (Nat.le_of_ble_eq_true rfl) ⟨⟨Nat.le_of_ble_eq_true rfl, Nat.le_of_ble_eq_true rfl⟩, Nat.le_of_ble_eq_true rfl, Nat.le_of_ble_eq_true rfl⟩ d_K_fillAct_31) [] 34 rfl rfl ?_
  exact z_vret C hlk hr d_K_fillAct_34 (by rw [show F_K_fillAct S x1 = (F_K_put (F_K_next (F_K_next (F_K_next S 6).2 (sK_parts (F_K_next S 6).2)).2 5).2 x1 (F_K_next S 6).1 (F_K_next (F_K_next S 6).2 (sK_parts (F_K_next S 6).2)).1 ((F_K_timeBefore (F_K_next (F_K_next S 6).2 (sK_parts (F_K_next S 6).2)).2 x1) + (F_K_next (F_K_next (F_K_next S 6).2 (sK_parts (F_K_next S 6).2)).2 5).1)) from by rw [F_K_fillAct]] at hq; exact hq)

def F_K_fillPart (S : SK) (x1 : Int32) : SK :=
  if (sK_kind S) = 0 then
    (F_K_fillRecord S x1)
  else
    if (sK_kind S) = 1 then
      (F_K_fillFile S x1)
    else
      if (sK_kind S) = 2 then
        (F_K_fillPattern S x1)
      else
        if (sK_kind S) = 3 then
          (F_K_fillLine S x1)
        else
          if (sK_kind S) = 4 then
            (F_K_fillReader S x1)
          else
            (F_K_fillAct S x1)
set_option maxRecDepth 100000 in
set_option maxHeartbeats 4000000 in
theorem c_K_fillPart (G : zG) (l : Launch) (a : Nat → Nat) (S : SK) (x1 : Int32)  : zM G l y_K_fillPart b_K_fillPart 2 (none) (zR 4 93) [.ref (a 0), .int x1] (wK G a S) (fun r1 w1 => r1 = none ∧ w1 = wK G a (F_K_fillPart S x1)) := by
  generalize hPost : (fun (r1 : Option Value) (w1 : va_W) => r1 = none ∧ w1 = wK G a (F_K_fillPart S x1)) = Post
  have hq : Post (none) (wK G a (F_K_fillPart S x1)) := by rw [← hPost]; exact ⟨rfl, rfl⟩
  clear hPost
  refine zM_of (by decide) (Nat.le_of_ble_eq_true rfl) ?_
  intro p e s m args below meth c C hlk hr hin
  refine z_aload_n C 1 d_K_fillPart_0 rfl rfl ?_
  refine z_get C kf_K_25 0 (v := .int (sK_kind S)) 4 d_K_fillPart_1 rfl rfl rfl ?_
  by_cases c_4_0 : (sK_kind S) = 0
  · refine z_tableIn C 40 d_K_fillPart_4 (by rw [c_4_0]; decide) (by rw [c_4_0]; decide) (by rw [c_4_0]; rfl) (by decide) ?_
    refine z_aload_n C 41 d_K_fillPart_40 rfl rfl ?_
    refine z_iload_n C 42 d_K_fillPart_41 rfl rfl ?_
    refine z_goA C (z_V C kc_K_51 (c_K_fillRecord G l a S x1) (st := []) 0 0 rfl rfl rfl rfl (Nat.le_of_ble_eq_true rfl) ⟨⟨Nat.le_of_ble_eq_true rfl, Nat.le_of_ble_eq_true rfl⟩, Nat.le_of_ble_eq_true rfl, Nat.le_of_ble_eq_true rfl⟩ d_K_fillPart_42) [] 45 rfl rfl ?_
    refine z_goto C 85 d_K_fillPart_45 (by decide) ?_
    exact z_vret C hlk hr d_K_fillPart_85 (by rw [show F_K_fillPart S x1 = (F_K_fillRecord S x1) from by rw [F_K_fillPart, if_pos c_4_0]] at hq; exact hq)
  by_cases c_4_1 : (sK_kind S) = 1
  · refine z_tableIn C 48 d_K_fillPart_4 (by rw [c_4_1]; decide) (by rw [c_4_1]; decide) (by rw [c_4_1]; rfl) (by decide) ?_
    refine z_aload_n C 49 d_K_fillPart_48 rfl rfl ?_
    refine z_iload_n C 50 d_K_fillPart_49 rfl rfl ?_
    refine z_goA C (z_V C kc_K_54 (c_K_fillFile G l a S x1) (st := []) 0 0 rfl rfl rfl rfl (Nat.le_of_ble_eq_true rfl) ⟨⟨Nat.le_of_ble_eq_true rfl, Nat.le_of_ble_eq_true rfl⟩, Nat.le_of_ble_eq_true rfl, Nat.le_of_ble_eq_true rfl⟩ d_K_fillPart_50) [] 53 rfl rfl ?_
    refine z_goto C 85 d_K_fillPart_53 (by decide) ?_
    exact z_vret C hlk hr d_K_fillPart_85 (by rw [show F_K_fillPart S x1 = (F_K_fillFile S x1) from by rw [F_K_fillPart, if_neg c_4_0, if_pos c_4_1]] at hq; exact hq)
  by_cases c_4_2 : (sK_kind S) = 2
  · refine z_tableIn C 56 d_K_fillPart_4 (by rw [c_4_2]; decide) (by rw [c_4_2]; decide) (by rw [c_4_2]; rfl) (by decide) ?_
    refine z_aload_n C 57 d_K_fillPart_56 rfl rfl ?_
    refine z_iload_n C 58 d_K_fillPart_57 rfl rfl ?_
    refine z_goA C (z_V C kc_K_57 (c_K_fillPattern G l a S x1) (st := []) 0 0 rfl rfl rfl rfl (Nat.le_of_ble_eq_true rfl) ⟨⟨Nat.le_of_ble_eq_true rfl, Nat.le_of_ble_eq_true rfl⟩, Nat.le_of_ble_eq_true rfl, Nat.le_of_ble_eq_true rfl⟩ d_K_fillPart_58) [] 61 rfl rfl ?_
    refine z_goto C 85 d_K_fillPart_61 (by decide) ?_
    exact z_vret C hlk hr d_K_fillPart_85 (by rw [show F_K_fillPart S x1 = (F_K_fillPattern S x1) from by rw [F_K_fillPart, if_neg c_4_0, if_neg c_4_1, if_pos c_4_2]] at hq; exact hq)
  by_cases c_4_3 : (sK_kind S) = 3
  · refine z_tableIn C 64 d_K_fillPart_4 (by rw [c_4_3]; decide) (by rw [c_4_3]; decide) (by rw [c_4_3]; rfl) (by decide) ?_
    refine z_aload_n C 65 d_K_fillPart_64 rfl rfl ?_
    refine z_iload_n C 66 d_K_fillPart_65 rfl rfl ?_
    refine z_goA C (z_V C kc_K_60 (c_K_fillLine G l a S x1) (st := []) 0 0 rfl rfl rfl rfl (Nat.le_of_ble_eq_true rfl) ⟨⟨Nat.le_of_ble_eq_true rfl, Nat.le_of_ble_eq_true rfl⟩, Nat.le_of_ble_eq_true rfl, Nat.le_of_ble_eq_true rfl⟩ d_K_fillPart_66) [] 69 rfl rfl ?_
    refine z_goto C 85 d_K_fillPart_69 (by decide) ?_
    exact z_vret C hlk hr d_K_fillPart_85 (by rw [show F_K_fillPart S x1 = (F_K_fillLine S x1) from by rw [F_K_fillPart, if_neg c_4_0, if_neg c_4_1, if_neg c_4_2, if_pos c_4_3]] at hq; exact hq)
  by_cases c_4_4 : (sK_kind S) = 4
  · refine z_tableIn C 72 d_K_fillPart_4 (by rw [c_4_4]; decide) (by rw [c_4_4]; decide) (by rw [c_4_4]; rfl) (by decide) ?_
    refine z_aload_n C 73 d_K_fillPart_72 rfl rfl ?_
    refine z_iload_n C 74 d_K_fillPart_73 rfl rfl ?_
    refine z_goA C (z_V C kc_K_63 (c_K_fillReader G l a S x1) (st := []) 0 0 rfl rfl rfl rfl (Nat.le_of_ble_eq_true rfl) ⟨⟨Nat.le_of_ble_eq_true rfl, Nat.le_of_ble_eq_true rfl⟩, Nat.le_of_ble_eq_true rfl, Nat.le_of_ble_eq_true rfl⟩ d_K_fillPart_74) [] 77 rfl rfl ?_
    refine z_goto C 85 d_K_fillPart_77 (by decide) ?_
    exact z_vret C hlk hr d_K_fillPart_85 (by rw [show F_K_fillPart S x1 = (F_K_fillReader S x1) from by rw [F_K_fillPart, if_neg c_4_0, if_neg c_4_1, if_neg c_4_2, if_neg c_4_3, if_pos c_4_4]] at hq; exact hq)
  refine z_tableOut C 80 d_K_fillPart_4 (by have q0 := lv_neT c_4_0 (a := 0) (by decide); have q1 := lv_neT c_4_1 (a := 1) (by decide); have q2 := lv_neT c_4_2 (a := 2) (by decide); have q3 := lv_neT c_4_3 (a := 3) (by decide); have q4 := lv_neT c_4_4 (a := 4) (by decide); omega) (by decide) ?_
  refine z_aload_n C 81 d_K_fillPart_80 rfl rfl ?_
  refine z_iload_n C 82 d_K_fillPart_81 rfl rfl ?_
  refine z_goA C (z_V C kc_K_66 (c_K_fillAct G l a S x1) (st := []) 0 0 rfl rfl rfl rfl (Nat.le_of_ble_eq_true rfl) ⟨⟨Nat.le_of_ble_eq_true rfl, Nat.le_of_ble_eq_true rfl⟩, Nat.le_of_ble_eq_true rfl, Nat.le_of_ble_eq_true rfl⟩ d_K_fillPart_82) [] 85 rfl rfl ?_
  exact z_vret C hlk hr d_K_fillPart_85 (by rw [show F_K_fillPart S x1 = (F_K_fillAct S x1) from by rw [F_K_fillPart, if_neg c_4_0, if_neg c_4_1, if_neg c_4_2, if_neg c_4_3, if_neg c_4_4]] at hq; exact hq)
