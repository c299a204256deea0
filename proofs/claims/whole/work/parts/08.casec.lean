
theorem sp_chance (S : SK) (c : Int64) : sK_parts (uK_chance S c) = sK_parts S := rfl
theorem kp_next (S : SK) (x : Int32) : sK_parts (F_K_next S x).2 = sK_parts S := by unfold F_K_next; split <;> exact sp_chance _ _
theorem kp_put (S : SK) (i x y z : Int32) : sK_parts (F_K_put S i x y z) = sK_parts S := by unfold F_K_put; split <;> rfl
theorem kp_addSign (S : SK) (x : Int32) : sK_parts (F_K_addSign S x) = sK_parts S := by unfold F_K_addSign; (repeat' split) <;> rfl
theorem kp_startTitle (S : SK) (x : Int32) : sK_parts (F_K_startTitle S x) = sK_parts S := by unfold F_K_startTitle; split <;> rfl
theorem kp_rep (n : Nat) : ∀ (S : SK) (v1 v2 v3 : Int32), sK_parts (L_K_repeatTitle_18 n S v1 v2 v3) = sK_parts S := by
  induction n with
  | zero => intros; rfl
  | succ n ih => intro S v1 v2 v3; rw [L_K_repeatTitle_18]; split; rfl; rw [ih, kp_addSign]
theorem kp_repeatTitle (S : SK) (x : Int32) : sK_parts (F_K_repeatTitle S x) = sK_parts S := by unfold F_K_repeatTitle; split; rfl; rw [kp_rep]
theorem kp_rec (n : Nat) : ∀ (S : SK) (v3 v5 : Int32), sK_parts (L_K_fillRecord_76 n S v3 v5) = sK_parts S := by
  induction n with
  | zero => intros; rfl
  | succ n ih => intro S v3 v5; rw [L_K_fillRecord_76]; split; rw [kp_addSign]; rw [ih, kp_addSign, kp_next]
theorem kp_fillRecord (S : SK) (x : Int32) : sK_parts (F_K_fillRecord S x) = sK_parts S := by
  unfold F_K_fillRecord
  (repeat' split) <;> simp only [kp_rec, kp_addSign, kp_repeatTitle, kp_put, kp_next, kp_startTitle]
theorem kp_ww (n : Nat) : ∀ (S : SK) (v1 v2 v3 v4 v5 v6 : Int32), sK_parts (L_K_fillFileWithWinner_27 n S v1 v2 v3 v4 v5 v6) = sK_parts S := by
  induction n with
  | zero => intros; rfl
  | succ n ih => intros; rw [L_K_fillFileWithWinner_27]; (repeat' split) <;> simp only [ih, kp_put, kp_next]
theorem kp_wo (n : Nat) : ∀ (S : SK) (v1 v2 v3 v4 v5 : Int32), sK_parts (L_K_fillFileWithoutWinner_20 n S v1 v2 v3 v4 v5) = sK_parts S := by
  induction n with
  | zero => intros; rfl
  | succ n ih => intros; rw [L_K_fillFileWithoutWinner_20]; (repeat' split) <;> simp only [ih, kp_put, kp_next]
theorem kp_fillFile (S : SK) (x : Int32) : sK_parts (F_K_fillFile S x) = sK_parts S := by
  unfold F_K_fillFile
  split
  · unfold F_K_fillFileWithWinner; simp only [kp_ww, kp_next]
  · unfold F_K_fillFileWithoutWinner; simp only [kp_wo, kp_next]
theorem kp_fillPart (S : SK) (x : Int32) : sK_parts (F_K_fillPart S x) = sK_parts S := by
  unfold F_K_fillPart
  (repeat' split)
  · exact kp_fillRecord S x
  · exact kp_fillFile S x
  · unfold F_K_fillPattern; (repeat' split) <;> simp only [kp_put, kp_next]
  · unfold F_K_fillLine; (repeat' split) <;> simp only [kp_put, kp_next]
  · unfold F_K_fillReader; (repeat' split) <;> simp only [kp_put, kp_next]
  · unfold F_K_fillAct; (repeat' split) <;> simp only [kp_put, kp_next]

def F_D_canBeDrawn (x0 : Int32) (x1 : Int32) : Int32 :=
  if x0 < 0 then
    0
  else
    if 5 < x0 then
      0
    else
      if x1 < 0 then
        0
      else
        if 20 < x1 then
          0
        else
          1
set_option maxRecDepth 100000 in
set_option maxHeartbeats 4000000 in
theorem c_D_canBeDrawn (G : zG) (l : Launch) (x0 : Int32) (x1 : Int32)  : zM G l y_D_canBeDrawn b_D_canBeDrawn 2 (some .boolean) (zR 0 0) [.int x0, .int x1] ([]) (fun r1 w1 => r1 = some (.int (F_D_canBeDrawn x0 x1)) ∧ w1 = []) := by
  generalize hPost : (fun (r1 : Option Value) (w1 : va_W) => r1 = some (.int (F_D_canBeDrawn x0 x1)) ∧ w1 = []) = Post
  have hq : Post (some (.int (F_D_canBeDrawn x0 x1))) ([]) := by rw [← hPost]; exact ⟨rfl, rfl⟩
  clear hPost
  refine zM_of (by decide) (Nat.le_of_ble_eq_true rfl) ?_
  intro p e s m args below meth c C hlk hr hin
  refine z_iload_n C 1 d_D_canBeDrawn_0 rfl rfl ?_
  refine z_if_lt C 23 4 d_D_canBeDrawn_1 (by decide) rfl (fun c_1 => ?_) (fun c_1 => ?_)
  · refine z_iconst C 0 24 d_D_canBeDrawn_23 rfl (by decide) ?_
    exact z_zret C hlk rfl hr d_D_canBeDrawn_24 (by rw [show F_D_canBeDrawn x0 x1 = 0 from by rw [F_D_canBeDrawn, if_pos c_1]] at hq; exact hq)
  · refine z_iload_n C 5 d_D_canBeDrawn_4 rfl rfl ?_
    refine z_iconst C 5 6 d_D_canBeDrawn_5 rfl (by decide) ?_
    refine z_icmp_gt C 23 9 d_D_canBeDrawn_6 (by decide) rfl (fun c_6 => ?_) (fun c_6 => ?_)
    · refine z_iconst C 0 24 d_D_canBeDrawn_23 rfl (by decide) ?_
      exact z_zret C hlk rfl hr d_D_canBeDrawn_24 (by rw [show F_D_canBeDrawn x0 x1 = 0 from by rw [F_D_canBeDrawn, if_neg c_1, if_pos c_6]] at hq; exact hq)
    · refine z_iload_n C 10 d_D_canBeDrawn_9 rfl rfl ?_
      refine z_if_lt C 23 13 d_D_canBeDrawn_10 (by decide) rfl (fun c_10 => ?_) (fun c_10 => ?_)
      · refine z_iconst C 0 24 d_D_canBeDrawn_23 rfl (by decide) ?_
        exact z_zret C hlk rfl hr d_D_canBeDrawn_24 (by rw [show F_D_canBeDrawn x0 x1 = 0 from by rw [F_D_canBeDrawn, if_neg c_1, if_neg c_6, if_pos c_10]] at hq; exact hq)
      · refine z_iload_n C 14 d_D_canBeDrawn_13 rfl rfl ?_
        refine z_bipush C 20 16 d_D_canBeDrawn_14 rfl (by decide) ?_
        refine z_icmp_gt C 23 19 d_D_canBeDrawn_16 (by decide) rfl (fun c_16 => ?_) (fun c_16 => ?_)
        · refine z_iconst C 0 24 d_D_canBeDrawn_23 rfl (by decide) ?_
          exact z_zret C hlk rfl hr d_D_canBeDrawn_24 (by rw [show F_D_canBeDrawn x0 x1 = 0 from by rw [F_D_canBeDrawn, if_neg c_1, if_neg c_6, if_neg c_10, if_pos c_16]] at hq; exact hq)
        · refine z_iconst C 1 20 d_D_canBeDrawn_19 rfl (by decide) ?_
          refine z_goto C 24 d_D_canBeDrawn_20 (by decide) ?_
          exact z_zret C hlk rfl hr d_D_canBeDrawn_24 (by rw [show F_D_canBeDrawn x0 x1 = 1 from by rw [F_D_canBeDrawn, if_neg c_1, if_neg c_6, if_neg c_10, if_neg c_16]] at hq; exact hq)

def L_K_fill_51 : Nat → SK → Int32 → SK
  | 0, S, v5 => S
  | n + 1, S, v5 =>
    if (sK_parts S) ≤ v5 then
      S
    else
      (L_K_fill_51 n (F_K_fillPart S v5) (v5 + 1))
set_option maxRecDepth 100000 in
set_option maxHeartbeats 4000000 in
theorem l_K_fill_51 (G : zG) (l : Launch) (a : Nat → Nat) {p : Program} {e : Env} {s : State} {m : MethodId} {args : Array Value} {below : List Frame} {meth : Method} {c : Code} {w0 : va_W} {Post : Option Value → va_W → Prop} (C : zC p s m args meth c b_K_fill 6 N_K G (va_A w0 s.heap.size)) (hlk : meth.locks = false) (hr : meth.sig.returnType = none) :
    ∀ (n : Nat) (S : SK) (v5 : Int32), (Int32.toInt (sK_parts S) - Int32.toInt v5).toNat < n → Post (none) (wK G a (L_K_fill_51 n S v5)) → zV p l e (zR 5 114) s m args below meth c 6 G (va_A w0 s.heap.size) (MQ below (zQ G w0 s.heap.size Post) args s 0 0 (va_A w0 s.heap.size)) 0 0 (wK G a S) 51 [(0, .ref (a 0)), (5, .int v5)] [] := by
  intro n
  induction n with
  | zero => intro S v5 h; exact absurd h (Nat.not_lt_zero _)
  | succ n ih =>
    intro S v5 hmu hq
    refine z_iload C 53 d_K_fill_51 rfl rfl ?_
    refine z_aload_n C 54 d_K_fill_53 rfl rfl ?_
    refine z_get C kf_K_29 0 (v := .int (sK_parts S)) 57 d_K_fill_54 rfl rfl rfl ?_
    refine z_icmp_ge C 72 60 d_K_fill_57 (by decide) rfl (fun c_57 => ?_) (fun c_57 => ?_)
    · exact z_vret C hlk hr d_K_fill_72 (by rw [show L_K_fill_51 (n + 1) S v5 = S from by rw [L_K_fill_51, if_pos c_57]] at hq; exact hq)
    · refine z_aload_n C 61 d_K_fill_60 rfl rfl ?_
      refine z_iload C 63 d_K_fill_61 rfl rfl ?_
      refine z_goA C (z_V C kc_K_47 (c_K_fillPart G l a S v5) (st := []) 0 0 rfl rfl rfl rfl (Nat.le_of_ble_eq_true rfl) ⟨⟨Nat.le_of_ble_eq_true rfl, Nat.le_of_ble_eq_true rfl⟩, Nat.le_of_ble_eq_true rfl, Nat.le_of_ble_eq_true rfl⟩ d_K_fill_63) [] 66 rfl rfl ?_
      refine z_iinc C (v5 + 1) [(5, .int (v5 + 1)), (0, .ref (a 0))] 69 d_K_fill_66 rfl (by decide) rfl rfl rfl ?_
      refine z_goto C 51 d_K_fill_69 (by decide) ?_
      refine z_lvs [1, 0] [(0, .ref (a 0)), (5, .int (v5 + 1))] rfl ?_
      exact ih (F_K_fillPart S v5) (v5 + 1) (by rw [kp_fillPart]; exact zdec c_57 hmu) (by rw [show L_K_fill_51 (n + 1) S v5 = (L_K_fill_51 n (F_K_fillPart S v5) (v5 + 1)) from by rw [L_K_fill_51, if_neg c_57]] at hq; exact hq)
def F_K_fill (S : SK) (x1 : Int64) (x3 : Int32) (x4 : Int32) : SK :=
  if (F_D_canBeDrawn x3 x4) = 0 then
    S
  else
    (L_K_fill_51 ((Int32.toInt (sK_parts (uK_signsUsed (uK_parts (uK_kind (uK_chance S ((x1 + (1000003 * (Int32.toInt64 x3))) + (101 * (Int32.toInt64 x4)))) x3) (x4 + 1)) 0)) - Int32.toInt 0).toNat + 1) (uK_signsUsed (uK_parts (uK_kind (uK_chance S ((x1 + (1000003 * (Int32.toInt64 x3))) + (101 * (Int32.toInt64 x4)))) x3) (x4 + 1)) 0) 0)
set_option maxRecDepth 100000 in
set_option maxHeartbeats 4000000 in
theorem c_K_fill (G : zG) (l : Launch) (a : Nat → Nat) (S : SK) (x1 : Int64) (x3 : Int32) (x4 : Int32)  : zM G l y_K_fill b_K_fill 6 (none) (zR 5 114) [.ref (a 0), .long x1, .int x3, .int x4] (wK G a S) (fun r1 w1 => r1 = none ∧ w1 = wK G a (F_K_fill S x1 x3 x4)) := by
  generalize hPost : (fun (r1 : Option Value) (w1 : va_W) => r1 = none ∧ w1 = wK G a (F_K_fill S x1 x3 x4)) = Post
  have hq : Post (none) (wK G a (F_K_fill S x1 x3 x4)) := by rw [← hPost]; exact ⟨rfl, rfl⟩
  clear hPost
  refine zM_of (by decide) (Nat.le_of_ble_eq_true rfl) ?_
  intro p e s m args below meth c C hlk hr hin
  refine z_iload_n C 1 d_K_fill_0 rfl rfl ?_
  refine z_iload C 3 d_K_fill_1 rfl rfl ?_
  refine z_go0 C (z_SN C kc_K_39 (c_D_canBeDrawn G l x3 x4) (st := []) rfl rfl (Nat.le_of_ble_eq_true rfl) ⟨⟨Nat.le_of_ble_eq_true rfl, Nat.le_of_ble_eq_true rfl⟩, Nat.le_of_ble_eq_true rfl, Nat.le_of_ble_eq_true rfl⟩ d_K_fill_3) [0, 1, 2, 3] [.int (F_D_canBeDrawn x3 x4)] 6 rfl rfl rfl rfl ?_
  refine z_if_ne C 10 9 d_K_fill_6 (by decide) rfl (fun c_6 => ?_) (fun c_6 => ?_)
  · refine z_aload_n C 11 d_K_fill_10 rfl rfl ?_
    refine z_lload_n C 12 d_K_fill_11 rfl rfl ?_
    refine z_ldc2 C 1000003 15 d_K_fill_12 rfl kk_K_43 ?_
    refine z_iload_n C 16 d_K_fill_15 rfl rfl ?_
    refine z_i2l C 17 d_K_fill_16 rfl ?_
    refine z_lmul C 18 d_K_fill_17 rfl ?_
    refine z_ladd C 19 d_K_fill_18 rfl ?_
    refine z_ldc2 C 101 22 d_K_fill_19 rfl kk_K_45 ?_
    refine z_iload C 24 d_K_fill_22 rfl rfl ?_
    refine z_i2l C 25 d_K_fill_24 rfl ?_
    refine z_lmul C 26 d_K_fill_25 rfl ?_
    refine z_ladd C 27 d_K_fill_26 rfl ?_
    refine z_put C kf_K_21 kp_K 0 (wK G a (uK_chance S ((x1 + (1000003 * (Int32.toInt64 x3))) + (101 * (Int32.toInt64 x4))))) 30 d_K_fill_27 rfl rfl rfl (znr_l _) (zft_l _) (Nat.le_of_ble_eq_true rfl) (wK_put_chance G a S ((x1 + (1000003 * (Int32.toInt64 x3))) + (101 * (Int32.toInt64 x4)))) ?_
    refine z_aload_n C 31 d_K_fill_30 rfl rfl ?_
    refine z_iload_n C 32 d_K_fill_31 rfl rfl ?_
    refine z_put C kf_K_25 kp_K 0 (wK G a (uK_kind (uK_chance S ((x1 + (1000003 * (Int32.toInt64 x3))) + (101 * (Int32.toInt64 x4)))) x3)) 35 d_K_fill_32 rfl rfl rfl (znr_i _) (zft_i _) (Nat.le_of_ble_eq_true rfl) (wK_put_kind G a (uK_chance S ((x1 + (1000003 * (Int32.toInt64 x3))) + (101 * (Int32.toInt64 x4)))) x3) ?_
    refine z_aload_n C 36 d_K_fill_35 rfl rfl ?_
    refine z_iload C 38 d_K_fill_36 rfl rfl ?_
    refine z_iconst C 1 39 d_K_fill_38 rfl (by decide) ?_
    refine z_iadd C 40 d_K_fill_39 rfl ?_
    refine z_put C kf_K_29 kp_K 0 (wK G a (uK_parts (uK_kind (uK_chance S ((x1 + (1000003 * (Int32.toInt64 x3))) + (101 * (Int32.toInt64 x4)))) x3) (x4 + 1))) 43 d_K_fill_40 rfl rfl rfl (znr_i _) (zft_i _) (Nat.le_of_ble_eq_true rfl) (wK_put_parts G a (uK_kind (uK_chance S ((x1 + (1000003 * (Int32.toInt64 x3))) + (101 * (Int32.toInt64 x4)))) x3) (x4 + 1)) ?_
    refine z_aload_n C 44 d_K_fill_43 rfl rfl ?_
    refine z_iconst C 0 45 d_K_fill_44 rfl (by decide) ?_
    refine z_put C kf_K_32 kp_K 0 (wK G a (uK_signsUsed (uK_parts (uK_kind (uK_chance S ((x1 + (1000003 * (Int32.toInt64 x3))) + (101 * (Int32.toInt64 x4)))) x3) (x4 + 1)) 0)) 48 d_K_fill_45 rfl rfl rfl (znr_i _) (zft_i _) (Nat.le_of_ble_eq_true rfl) (wK_put_signsUsed G a (uK_parts (uK_kind (uK_chance S ((x1 + (1000003 * (Int32.toInt64 x3))) + (101 * (Int32.toInt64 x4)))) x3) (x4 + 1)) 0) ?_
    refine z_iconst C 0 49 d_K_fill_48 rfl (by decide) ?_
    refine z_istore C [(5, .int 0), (0, .ref (a 0)), (1, .long x1), (3, .int x3), (4, .int x4)] 51 d_K_fill_49 rfl (by decide) rfl ?_
    refine z_lvs [1, 0] [(0, .ref (a 0)), (5, .int 0)] rfl ?_
    exact l_K_fill_51 G l a C hlk hr _ (uK_signsUsed (uK_parts (uK_kind (uK_chance S ((x1 + (1000003 * (Int32.toInt64 x3))) + (101 * (Int32.toInt64 x4)))) x3) (x4 + 1)) 0) 0 (Nat.lt_succ_self _) (by rw [show F_K_fill S x1 x3 x4 = (L_K_fill_51 ((Int32.toInt (sK_parts (uK_signsUsed (uK_parts (uK_kind (uK_chance S ((x1 + (1000003 * (Int32.toInt64 x3))) + (101 * (Int32.toInt64 x4)))) x3) (x4 + 1)) 0)) - Int32.toInt 0).toNat + 1) (uK_signsUsed (uK_parts (uK_kind (uK_chance S ((x1 + (1000003 * (Int32.toInt64 x3))) + (101 * (Int32.toInt64 x4)))) x3) (x4 + 1)) 0) 0) from by rw [F_K_fill, if_neg c_6]] at hq; exact hq)
  · exact z_vret C hlk hr d_K_fill_9 (by rw [show F_K_fill S x1 x3 x4 = S from by rw [F_K_fill, if_pos c_6]] at hq; exact hq)

def L_K_votes_24 : Nat → SK → Int32 → Int32 → Int32 → Int32 → Int32 → Int32 → Int32
  | 0, S, v2, v3, v4, v5, v6, v7 => 0
  | n + 1, S, v2, v3, v4, v5, v6, v7 =>
    if v3 ≤ v7 then
      v6
    else
      if ((v4 >>> ((2 * v7) &&& 31)) &&& v5) = v2 then
        (L_K_votes_24 n S v2 v3 v4 v5 (v6 + 1) (v7 + 1))
      else
        (L_K_votes_24 n S v2 v3 v4 v5 v6 (v7 + 1))
set_option maxRecDepth 100000 in
set_option maxHeartbeats 4000000 in
theorem l_K_votes_24 (G : zG) (l : Launch) (a : Nat → Nat) {p : Program} {e : Env} {s : State} {m : MethodId} {args : Array Value} {below : List Frame} {meth : Method} {c : Code} {w0 : va_W} {Post : Option Value → va_W → Prop} (C : zC p s m args meth c b_K_votes 8 N_K G (va_A w0 s.heap.size)) (hlk : meth.locks = false) (hr : meth.sig.returnType = some .int) :
    ∀ (n : Nat) (S : SK) (v2 : Int32) (v3 : Int32) (v4 : Int32) (v5 : Int32) (v6 : Int32) (v7 : Int32), (Int32.toInt v3 - Int32.toInt v7).toNat < n → Post (some (.int (L_K_votes_24 n S v2 v3 v4 v5 v6 v7))) (wK G a S) → zV p l e (zR 2 43) s m args below meth c 8 G (va_A w0 s.heap.size) (MQ below (zQ G w0 s.heap.size Post) args s 0 0 (va_A w0 s.heap.size)) 0 0 (wK G a S) 24 [(0, .ref (a 0)), (2, .int v2), (3, .int v3), (4, .int v4), (5, .int v5), (6, .int v6), (7, .int v7)] [] := by
  intro n
  induction n with
  | zero => intro S v2 v3 v4 v5 v6 v7 h; exact absurd h (Nat.not_lt_zero _)
  | succ n ih =>
    intro S v2 v3 v4 v5 v6 v7 hmu hq
    refine z_iload C 26 d_K_votes_24 rfl rfl ?_
    refine z_iload_n C 27 d_K_votes_26 rfl rfl ?_
    refine z_icmp_ge C 53 30 d_K_votes_27 (by decide) rfl (fun c_27 => ?_) (fun c_27 => ?_)
    · refine z_iload C 55 d_K_votes_53 rfl rfl ?_
      exact z_iret C hlk hr d_K_votes_55 (by rw [show L_K_votes_24 (n + 1) S v2 v3 v4 v5 v6 v7 = v6 from by rw [L_K_votes_24, if_pos c_27]] at hq; exact hq)
    · refine z_iload C 32 d_K_votes_30 rfl rfl ?_
      refine z_iconst C 2 33 d_K_votes_32 rfl (by decide) ?_
      refine z_iload C 35 d_K_votes_33 rfl rfl ?_
      refine z_imul C 36 d_K_votes_35 rfl ?_
      refine z_ishr C 37 d_K_votes_36 rfl ?_
      refine z_iload C 39 d_K_votes_37 rfl rfl ?_
      refine z_iand C 40 d_K_votes_39 rfl ?_
      refine z_iload_n C 41 d_K_votes_40 rfl rfl ?_
      refine z_icmp_ne C 47 44 d_K_votes_41 (by decide) rfl (fun c_41 => ?_) (fun c_41 => ?_)
      · refine z_iinc C (v7 + 1) [(7, .int (v7 + 1)), (0, .ref (a 0)), (2, .int v2), (3, .int v3), (4, .int v4), (5, .int v5), (6, .int v6)] 50 d_K_votes_47 rfl (by decide) rfl rfl rfl ?_
        refine z_goto C 24 d_K_votes_50 (by decide) ?_
        refine z_lvs [1, 2, 3, 4, 5, 6, 0] [(0, .ref (a 0)), (2, .int v2), (3, .int v3), (4, .int v4), (5, .int v5), (6, .int v6), (7, .int (v7 + 1))] rfl ?_
        exact ih S v2 v3 v4 v5 v6 (v7 + 1) (zdec c_27 hmu) (by rw [show L_K_votes_24 (n + 1) S v2 v3 v4 v5 v6 v7 = (L_K_votes_24 n S v2 v3 v4 v5 v6 (v7 + 1)) from by rw [L_K_votes_24, if_neg c_27, if_neg c_41]] at hq; exact hq)
      · refine z_iinc C (v6 + 1) [(6, .int (v6 + 1)), (0, .ref (a 0)), (2, .int v2), (3, .int v3), (4, .int v4), (5, .int v5), (7, .int v7)] 47 d_K_votes_44 rfl (by decide) rfl rfl rfl ?_
        refine z_iinc C (v7 + 1) [(7, .int (v7 + 1)), (6, .int (v6 + 1)), (0, .ref (a 0)), (2, .int v2), (3, .int v3), (4, .int v4), (5, .int v5)] 50 d_K_votes_47 rfl (by decide) rfl rfl rfl ?_
        refine z_goto C 24 d_K_votes_50 (by decide) ?_
        refine z_lvs [2, 3, 4, 5, 6, 1, 0] [(0, .ref (a 0)), (2, .int v2), (3, .int v3), (4, .int v4), (5, .int v5), (6, .int (v6 + 1)), (7, .int (v7 + 1))] rfl ?_
        exact ih S v2 v3 v4 v5 (v6 + 1) (v7 + 1) (zdec c_27 hmu) (by rw [show L_K_votes_24 (n + 1) S v2 v3 v4 v5 v6 v7 = (L_K_votes_24 n S v2 v3 v4 v5 (v6 + 1) (v7 + 1)) from by rw [L_K_votes_24, if_neg c_27, if_pos c_41]] at hq; exact hq)
def F_K_votes (S : SK) (x1 : Int32) (x2 : Int32) : Int32 :=
  (L_K_votes_24 ((Int32.toInt (F_K_number S x1 0) - Int32.toInt 0).toNat + 1) S x2 (F_K_number S x1 0) (F_K_number S x1 1) 3 0 0)
set_option maxRecDepth 100000 in
set_option maxHeartbeats 4000000 in
theorem c_K_votes (G : zG) (l : Launch) (a : Nat → Nat) (S : SK) (x1 : Int32) (x2 : Int32)  : zM G l y_K_votes b_K_votes 8 (some .int) (zR 2 43) [.ref (a 0), .int x1, .int x2] (wK G a S) (fun r1 w1 => r1 = some (.int (F_K_votes S x1 x2)) ∧ w1 = wK G a S) := by
  generalize hPost : (fun (r1 : Option Value) (w1 : va_W) => r1 = some (.int (F_K_votes S x1 x2)) ∧ w1 = wK G a S) = Post
  have hq : Post (some (.int (F_K_votes S x1 x2))) (wK G a S) := by rw [← hPost]; exact ⟨rfl, rfl⟩
  clear hPost
  refine zM_of (by decide) (Nat.le_of_ble_eq_true rfl) ?_
  intro p e s m args below meth c C hlk hr hin
  refine z_aload_n C 1 d_K_votes_0 rfl rfl ?_
  refine z_iload_n C 2 d_K_votes_1 rfl rfl ?_
  refine z_iconst C 0 3 d_K_votes_2 rfl (by decide) ?_
  refine z_goA C (z_V C kc_K_83 (c_K_number G l a S x1 0) (st := []) 0 0 rfl rfl rfl rfl (Nat.le_of_ble_eq_true rfl) ⟨⟨Nat.le_of_ble_eq_true rfl, Nat.le_of_ble_eq_true rfl⟩, Nat.le_of_ble_eq_true rfl, Nat.le_of_ble_eq_true rfl⟩ d_K_votes_3) [.int (F_K_number S x1 0)] 6 rfl rfl ?_
  refine z_istore_n C [(3, .int (F_K_number S x1 0)), (0, .ref (a 0)), (1, .int x1), (2, .int x2)] 7 d_K_votes_6 rfl (by decide) rfl ?_
  refine z_aload_n C 8 d_K_votes_7 rfl rfl ?_
  refine z_iload_n C 9 d_K_votes_8 rfl rfl ?_
  refine z_iconst C 1 10 d_K_votes_9 rfl (by decide) ?_
  refine z_goA C (z_V C kc_K_83 (c_K_number G l a S x1 1) (st := []) 0 0 rfl rfl rfl rfl (Nat.le_of_ble_eq_true rfl) ⟨⟨Nat.le_of_ble_eq_true rfl, Nat.le_of_ble_eq_true rfl⟩, Nat.le_of_ble_eq_true rfl, Nat.le_of_ble_eq_true rfl⟩ d_K_votes_10) [.int (F_K_number S x1 1)] 13 rfl rfl ?_
  refine z_istore C [(4, .int (F_K_number S x1 1)), (3, .int (F_K_number S x1 0)), (0, .ref (a 0)), (1, .int x1), (2, .int x2)] 15 d_K_votes_13 rfl (by decide) rfl ?_
  refine z_iconst C 3 16 d_K_votes_15 rfl (by decide) ?_
  refine z_istore C [(5, .int 3), (4, .int (F_K_number S x1 1)), (3, .int (F_K_number S x1 0)), (0, .ref (a 0)), (1, .int x1), (2, .int x2)] 18 d_K_votes_16 rfl (by decide) rfl ?_
  refine z_iconst C 0 19 d_K_votes_18 rfl (by decide) ?_
  refine z_istore C [(6, .int 0), (5, .int 3), (4, .int (F_K_number S x1 1)), (3, .int (F_K_number S x1 0)), (0, .ref (a 0)), (1, .int x1), (2, .int x2)] 21 d_K_votes_19 rfl (by decide) rfl ?_
  refine z_iconst C 0 22 d_K_votes_21 rfl (by decide) ?_
  refine z_istore C [(7, .int 0), (6, .int 0), (5, .int 3), (4, .int (F_K_number S x1 1)), (3, .int (F_K_number S x1 0)), (0, .ref (a 0)), (1, .int x1), (2, .int x2)] 24 d_K_votes_22 rfl (by decide) rfl ?_
  refine z_lvs [5, 7, 4, 3, 2, 1, 0] [(0, .ref (a 0)), (2, .int x2), (3, .int (F_K_number S x1 0)), (4, .int (F_K_number S x1 1)), (5, .int 3), (6, .int 0), (7, .int 0)] rfl ?_
  exact l_K_votes_24 G l a C hlk hr _ S x2 (F_K_number S x1 0) (F_K_number S x1 1) 3 0 0 (Nat.lt_succ_self _) (by rw [show F_K_votes S x1 x2 = (L_K_votes_24 ((Int32.toInt (F_K_number S x1 0) - Int32.toInt 0).toNat + 1) S x2 (F_K_number S x1 0) (F_K_number S x1 1) 3 0 0) from by rw [F_K_votes]] at hq; exact hq)

def L_K_winner_20 : Nat → SK → Int32 → Int32 → Int32
  | 0, S, v1, v2 => 0
  | n + 1, S, v1, v2 =>
    if 3 ≤ v2 then
      (-1)
    else
      if (2 * (F_K_votes S v1 v2)) ≤ (F_K_number S v1 0) then
        (L_K_winner_20 n S v1 (v2 + 1))
      else
        v2
set_option maxRecDepth 100000 in
set_option maxHeartbeats 4000000 in
theorem l_K_winner_20 (G : zG) (l : Launch) (a : Nat → Nat) {p : Program} {e : Env} {s : State} {m : MethodId} {args : Array Value} {below : List Frame} {meth : Method} {c : Code} {w0 : va_W} {Post : Option Value → va_W → Prop} (C : zC p s m args meth c b_K_winner 3 N_K G (va_A w0 s.heap.size)) (hlk : meth.locks = false) (hr : meth.sig.returnType = some .int) :
    ∀ (n : Nat) (S : SK) (v1 : Int32) (v2 : Int32), (Int32.toInt 3 - Int32.toInt v2).toNat < n → Post (some (.int (L_K_winner_20 n S v1 v2))) (wK G a S) → zV p l e (zR 3 70) s m args below meth c 3 G (va_A w0 s.heap.size) (MQ below (zQ G w0 s.heap.size Post) args s 0 0 (va_A w0 s.heap.size)) 0 0 (wK G a S) 20 [(0, .ref (a 0)), (1, .int v1), (2, .int v2)] [] := by
  intro n
  induction n with
  | zero => intro S v1 v2 h; exact absurd h (Nat.not_lt_zero _)
  | succ n ih =>
    intro S v1 v2 hmu hq
    refine z_iload_n C 21 d_K_winner_20 rfl rfl ?_
    refine z_iconst C 3 22 d_K_winner_21 rfl (by decide) ?_
    refine z_icmp_ge C 50 25 d_K_winner_22 (by decide) rfl (fun c_22 => ?_) (fun c_22 => ?_)
    · refine z_iconst C (-1) 51 d_K_winner_50 rfl (by decide) ?_
      exact z_iret C hlk hr d_K_winner_51 (by rw [show L_K_winner_20 (n + 1) S v1 v2 = (-1) from by rw [L_K_winner_20, if_pos c_22]] at hq; exact hq)
    · refine z_iconst C 2 26 d_K_winner_25 rfl (by decide) ?_
      refine z_aload_n C 27 d_K_winner_26 rfl rfl ?_
      refine z_iload_n C 28 d_K_winner_27 rfl rfl ?_
      refine z_iload_n C 29 d_K_winner_28 rfl rfl ?_
      refine z_goA C (z_V C kc_K_106 (c_K_votes G l a S v1 v2) (st := [.int 2]) 0 0 rfl rfl rfl rfl (Nat.le_of_ble_eq_true rfl) ⟨⟨Nat.le_of_ble_eq_true rfl, Nat.le_of_ble_eq_true rfl⟩, Nat.le_of_ble_eq_true rfl, Nat.le_of_ble_eq_true rfl⟩ d_K_winner_29) [.int (F_K_votes S v1 v2), .int 2] 32 rfl rfl ?_
      refine z_imul C 33 d_K_winner_32 rfl ?_
      refine z_aload_n C 34 d_K_winner_33 rfl rfl ?_
      refine z_iload_n C 35 d_K_winner_34 rfl rfl ?_
      refine z_iconst C 0 36 d_K_winner_35 rfl (by decide) ?_
      refine z_goA C (z_V C kc_K_83 (c_K_number G l a S v1 0) (st := [.int (2 * (F_K_votes S v1 v2))]) 0 0 rfl rfl rfl rfl (Nat.le_of_ble_eq_true rfl) ⟨⟨Nat.le_of_ble_eq_true rfl, Nat.le_of_ble_eq_true rfl⟩, Nat.le_of_ble_eq_true rfl, Nat.le_of_ble_eq_true rfl⟩ d_K_winner_36) [.int (F_K_number S v1 0), .int (2 * (F_K_votes S v1 v2))] 39 rfl rfl ?_
      refine z_icmp_le C 44 42 d_K_winner_39 (by decide) rfl (fun c_39 => ?_) (fun c_39 => ?_)
      · refine z_iinc C (v2 + 1) [(2, .int (v2 + 1)), (0, .ref (a 0)), (1, .int v1)] 47 d_K_winner_44 rfl (by decide) rfl rfl rfl ?_
        refine z_goto C 20 d_K_winner_47 (by decide) ?_
        refine z_lvs [1, 2, 0] [(0, .ref (a 0)), (1, .int v1), (2, .int (v2 + 1))] rfl ?_
        exact ih S v1 (v2 + 1) (zdec c_22 hmu) (by rw [show L_K_winner_20 (n + 1) S v1 v2 = (L_K_winner_20 n S v1 (v2 + 1)) from by rw [L_K_winner_20, if_neg c_22, if_pos c_39]] at hq; exact hq)
      · refine z_iload_n C 43 d_K_winner_42 rfl rfl ?_
        exact z_iret C hlk hr d_K_winner_43 (by rw [show L_K_winner_20 (n + 1) S v1 v2 = v2 from by rw [L_K_winner_20, if_neg c_22, if_neg c_39]] at hq; exact hq)
def F_K_winner (S : SK) (x1 : Int32) : Int32 :=
  if (sK_kind S) = 1 then
    if (F_K_has S x1) = 0 then
      (-1)
    else
      (L_K_winner_20 ((Int32.toInt 3 - Int32.toInt 0).toNat + 1) S x1 0)
  else
    (-1)
set_option maxRecDepth 100000 in
set_option maxHeartbeats 4000000 in
theorem c_K_winner (G : zG) (l : Launch) (a : Nat → Nat) (S : SK) (x1 : Int32)  : zM G l y_K_winner b_K_winner 3 (some .int) (zR 3 70) [.ref (a 0), .int x1] (wK G a S) (fun r1 w1 => r1 = some (.int (F_K_winner S x1)) ∧ w1 = wK G a S) := by
  generalize hPost : (fun (r1 : Option Value) (w1 : va_W) => r1 = some (.int (F_K_winner S x1)) ∧ w1 = wK G a S) = Post
  have hq : Post (some (.int (F_K_winner S x1))) (wK G a S) := by rw [← hPost]; exact ⟨rfl, rfl⟩
  clear hPost
  refine zM_of (by decide) (Nat.le_of_ble_eq_true rfl) ?_
  intro p e s m args below meth c C hlk hr hin
  refine z_aload_n C 1 d_K_winner_0 rfl rfl ?_
  refine z_get C kf_K_25 0 (v := .int (sK_kind S)) 4 d_K_winner_1 rfl rfl rfl ?_
  refine z_iconst C 1 5 d_K_winner_4 rfl (by decide) ?_
  refine z_icmp_ne C 16 8 d_K_winner_5 (by decide) rfl (fun c_5 => ?_) (fun c_5 => ?_)
  · refine z_iconst C (-1) 17 d_K_winner_16 rfl (by decide) ?_
    exact z_iret C hlk hr d_K_winner_17 (by rw [show F_K_winner S x1 = (-1) from by rw [F_K_winner, if_neg c_5]] at hq; exact hq)
  · refine z_aload_n C 9 d_K_winner_8 rfl rfl ?_
    refine z_iload_n C 10 d_K_winner_9 rfl rfl ?_
    refine z_goA C (z_V C kc_K_35 (c_K_has G l a S x1) (st := []) 0 0 rfl rfl rfl rfl (Nat.le_of_ble_eq_true rfl) ⟨⟨Nat.le_of_ble_eq_true rfl, Nat.le_of_ble_eq_true rfl⟩, Nat.le_of_ble_eq_true rfl, Nat.le_of_ble_eq_true rfl⟩ d_K_winner_10) [.int (F_K_has S x1)] 13 rfl rfl ?_
    refine z_if_ne C 18 16 d_K_winner_13 (by decide) rfl (fun c_13 => ?_) (fun c_13 => ?_)
    · refine z_iconst C 0 19 d_K_winner_18 rfl (by decide) ?_
      refine z_istore_n C [(2, .int 0), (0, .ref (a 0)), (1, .int x1)] 20 d_K_winner_19 rfl (by decide) rfl ?_
      refine z_lvs [1, 2, 0] [(0, .ref (a 0)), (1, .int x1), (2, .int 0)] rfl ?_
      exact l_K_winner_20 G l a C hlk hr _ S x1 0 (Nat.lt_succ_self _) (by rw [show F_K_winner S x1 = (L_K_winner_20 ((Int32.toInt 3 - Int32.toInt 0).toNat + 1) S x1 0) from by rw [F_K_winner, if_pos c_5, if_neg c_13]] at hq; exact hq)
    · refine z_iconst C (-1) 17 d_K_winner_16 rfl (by decide) ?_
      exact z_iret C hlk hr d_K_winner_17 (by rw [show F_K_winner S x1 = (-1) from by rw [F_K_winner, if_pos c_5, if_pos c_13]] at hq; exact hq)

def F_K_shows (S : SK) (x1 : Int32) (x2 : Int32) : Int32 :=
  if x2 = 0 then
    if (sK_kind S) = 0 then
      if (F_K_number S x1 0) = 0 then
        1
      else
        0
    else
      0
  else
    if x2 = 1 then
      if (sK_kind S) = 0 then
        if (F_K_number S x1 1) = 0 then
          1
        else
          0
      else
        0
    else
      if x2 = 2 then
        if (sK_kind S) = 0 then
          if (F_K_number S x1 2) = (-1) then
            0
          else
            1
        else
          0
      else
        if x2 = 3 then
          if (sK_kind S) = 1 then
            if (F_K_winner S x1) = (-1) then
              1
            else
              0
          else
            0
        else
          if x2 = 4 then
            if (F_K_isPattern S x1) = 0 then
              0
            else
              if (F_K_lastDay S x1) = 1500 then
                1
              else
                0
          else
            if x2 = 5 then
              if (sK_kind S) = 3 then
                if (F_K_number S x1 2) = 0 then
                  0
                else
                  1
              else
                0
            else
              if x2 = 6 then
                if (sK_kind S) = 4 then
                  if (F_K_number S x1 1) = (-1) then
                    0
                  else
                    1
                else
                  0
              else
                if x2 = 7 then
                  if (sK_kind S) = 5 then
                    if (F_K_number S x1 2) = (F_K_timeBefore S x1) then
                      1
                    else
                      0
                  else
                    0
                else
                  0
set_option maxRecDepth 100000 in
set_option maxHeartbeats 4000000 in
theorem c_K_shows (G : zG) (l : Launch) (a : Nat → Nat) (S : SK) (x1 : Int32) (x2 : Int32)  : zM G l y_K_shows b_K_shows 3 (some .boolean) (zR 4 92) [.ref (a 0), .int x1, .int x2] (wK G a S) (fun r1 w1 => r1 = some (.int (F_K_shows S x1 x2)) ∧ w1 = wK G a S) := by
  generalize hPost : (fun (r1 : Option Value) (w1 : va_W) => r1 = some (.int (F_K_shows S x1 x2)) ∧ w1 = wK G a S) = Post
  have hq : Post (some (.int (F_K_shows S x1 x2))) (wK G a S) := by rw [← hPost]; exact ⟨rfl, rfl⟩
  clear hPost
  refine zM_of (by decide) (Nat.le_of_ble_eq_true rfl) ?_
  intro p e s m args below meth c C hlk hr hin
  refine z_iload_n C 1 d_K_shows_0 rfl rfl ?_
  by_cases c_1_0 : x2 = 0
  · refine z_tableIn C 48 d_K_shows_1 (by rw [c_1_0]; decide) (by rw [c_1_0]; decide) (by rw [c_1_0]; rfl) (by decide) ?_
    refine z_aload_n C 49 d_K_shows_48 rfl rfl ?_
    refine z_get C kf_K_25 0 (v := .int (sK_kind S)) 52 d_K_shows_49 rfl rfl rfl ?_
    refine z_if_ne C 68 55 d_K_shows_52 (by decide) rfl (fun c_52 => ?_) (fun c_52 => ?_)
    · refine z_iconst C 0 69 d_K_shows_68 rfl (by decide) ?_
      exact z_zret C hlk rfl hr d_K_shows_69 (by rw [show F_K_shows S x1 x2 = 0 from by rw [F_K_shows, if_pos c_1_0, if_neg c_52]] at hq; exact hq)
    · refine z_aload_n C 56 d_K_shows_55 rfl rfl ?_
      refine z_iload_n C 57 d_K_shows_56 rfl rfl ?_
      refine z_iconst C 0 58 d_K_shows_57 rfl (by decide) ?_
      refine z_goA C (z_V C kc_K_83 (c_K_number G l a S x1 0) (st := []) 0 0 rfl rfl rfl rfl (Nat.le_of_ble_eq_true rfl) ⟨⟨Nat.le_of_ble_eq_true rfl, Nat.le_of_ble_eq_true rfl⟩, Nat.le_of_ble_eq_true rfl, Nat.le_of_ble_eq_true rfl⟩ d_K_shows_58) [.int (F_K_number S x1 0)] 61 rfl rfl ?_
      refine z_if_ne C 68 64 d_K_shows_61 (by decide) rfl (fun c_61 => ?_) (fun c_61 => ?_)
      · refine z_iconst C 0 69 d_K_shows_68 rfl (by decide) ?_
        exact z_zret C hlk rfl hr d_K_shows_69 (by rw [show F_K_shows S x1 x2 = 0 from by rw [F_K_shows, if_pos c_1_0, if_pos c_52, if_neg c_61]] at hq; exact hq)
      · refine z_iconst C 1 65 d_K_shows_64 rfl (by decide) ?_
        refine z_goto C 69 d_K_shows_65 (by decide) ?_
        exact z_zret C hlk rfl hr d_K_shows_69 (by rw [show F_K_shows S x1 x2 = 1 from by rw [F_K_shows, if_pos c_1_0, if_pos c_52, if_pos c_61]] at hq; exact hq)
  by_cases c_1_1 : x2 = 1
  · refine z_tableIn C 70 d_K_shows_1 (by rw [c_1_1]; decide) (by rw [c_1_1]; decide) (by rw [c_1_1]; rfl) (by decide) ?_
    refine z_aload_n C 71 d_K_shows_70 rfl rfl ?_
    refine z_get C kf_K_25 0 (v := .int (sK_kind S)) 74 d_K_shows_71 rfl rfl rfl ?_
    refine z_if_ne C 90 77 d_K_shows_74 (by decide) rfl (fun c_74 => ?_) (fun c_74 => ?_)
    · refine z_iconst C 0 91 d_K_shows_90 rfl (by decide) ?_
      exact z_zret C hlk rfl hr d_K_shows_91 (by rw [show F_K_shows S x1 x2 = 0 from by rw [F_K_shows, if_neg c_1_0, if_pos c_1_1, if_neg c_74]] at hq; exact hq)
    · refine z_aload_n C 78 d_K_shows_77 rfl rfl ?_
      refine z_iload_n C 79 d_K_shows_78 rfl rfl ?_
      refine z_iconst C 1 80 d_K_shows_79 rfl (by decide) ?_
      refine z_goA C (z_V C kc_K_83 (c_K_number G l a S x1 1) (st := []) 0 0 rfl rfl rfl rfl (Nat.le_of_ble_eq_true rfl) ⟨⟨Nat.le_of_ble_eq_true rfl, Nat.le_of_ble_eq_true rfl⟩, Nat.le_of_ble_eq_true rfl, Nat.le_of_ble_eq_true rfl⟩ d_K_shows_80) [.int (F_K_number S x1 1)] 83 rfl rfl ?_
      refine z_if_ne C 90 86 d_K_shows_83 (by decide) rfl (fun c_83 => ?_) (fun c_83 => ?_)
      · refine z_iconst C 0 91 d_K_shows_90 rfl (by decide) ?_
        exact z_zret C hlk rfl hr d_K_shows_91 (by rw [show F_K_shows S x1 x2 = 0 from by rw [F_K_shows, if_neg c_1_0, if_pos c_1_1, if_pos c_74, if_neg c_83]] at hq; exact hq)
      · refine z_iconst C 1 87 d_K_shows_86 rfl (by decide) ?_
        refine z_goto C 91 d_K_shows_87 (by decide) ?_
        exact z_zret C hlk rfl hr d_K_shows_91 (by rw [show F_K_shows S x1 x2 = 1 from by rw [F_K_shows, if_neg c_1_0, if_pos c_1_1, if_pos c_74, if_pos c_83]] at hq; exact hq)
  by_cases c_1_2 : x2 = 2
  · refine z_tableIn C 92 d_K_shows_1 (by rw [c_1_2]; decide) (by rw [c_1_2]; decide) (by rw [c_1_2]; rfl) (by decide) ?_
    refine z_aload_n C 93 d_K_shows_92 rfl rfl ?_
    refine z_get C kf_K_25 0 (v := .int (sK_kind S)) 96 d_K_shows_93 rfl rfl rfl ?_
    refine z_if_ne C 113 99 d_K_shows_96 (by decide) rfl (fun c_96 => ?_) (fun c_96 => ?_)
    · refine z_iconst C 0 114 d_K_shows_113 rfl (by decide) ?_
      exact z_zret C hlk rfl hr d_K_shows_114 (by rw [show F_K_shows S x1 x2 = 0 from by rw [F_K_shows, if_neg c_1_0, if_neg c_1_1, if_pos c_1_2, if_neg c_96]] at hq; exact hq)
    · refine z_aload_n C 100 d_K_shows_99 rfl rfl ?_
      refine z_iload_n C 101 d_K_shows_100 rfl rfl ?_
      refine z_iconst C 2 102 d_K_shows_101 rfl (by decide) ?_
      refine z_goA C (z_V C kc_K_83 (c_K_number G l a S x1 2) (st := []) 0 0 rfl rfl rfl rfl (Nat.le_of_ble_eq_true rfl) ⟨⟨Nat.le_of_ble_eq_true rfl, Nat.le_of_ble_eq_true rfl⟩, Nat.le_of_ble_eq_true rfl, Nat.le_of_ble_eq_true rfl⟩ d_K_shows_102) [.int (F_K_number S x1 2)] 105 rfl rfl ?_
      refine z_iconst C (-1) 106 d_K_shows_105 rfl (by decide) ?_
      refine z_icmp_eq C 113 109 d_K_shows_106 (by decide) rfl (fun c_106 => ?_) (fun c_106 => ?_)
      · refine z_iconst C 0 114 d_K_shows_113 rfl (by decide) ?_
        exact z_zret C hlk rfl hr d_K_shows_114 (by rw [show F_K_shows S x1 x2 = 0 from by rw [F_K_shows, if_neg c_1_0, if_neg c_1_1, if_pos c_1_2, if_pos c_96, if_pos c_106]] at hq; exact hq)
      · refine z_iconst C 1 110 d_K_shows_109 rfl (by decide) ?_
        refine z_goto C 114 d_K_shows_110 (by decide) ?_
        exact z_zret C hlk rfl hr d_K_shows_114 (by rw [show F_K_shows S x1 x2 = 1 from by rw [F_K_shows, if_neg c_1_0, if_neg c_1_1, if_pos c_1_2, if_pos c_96, if_neg c_106]] at hq; exact hq)
  by_cases c_1_3 : x2 = 3
  · refine z_tableIn C 115 d_K_shows_1 (by rw [c_1_3]; decide) (by rw [c_1_3]; decide) (by rw [c_1_3]; rfl) (by decide) ?_
    refine z_aload_n C 116 d_K_shows_115 rfl rfl ?_
    refine z_get C kf_K_25 0 (v := .int (sK_kind S)) 119 d_K_shows_116 rfl rfl rfl ?_
    refine z_iconst C 1 120 d_K_shows_119 rfl (by decide) ?_
    refine z_icmp_ne C 136 123 d_K_shows_120 (by decide) rfl (fun c_120 => ?_) (fun c_120 => ?_)
    · refine z_iconst C 0 137 d_K_shows_136 rfl (by decide) ?_
      exact z_zret C hlk rfl hr d_K_shows_137 (by rw [show F_K_shows S x1 x2 = 0 from by rw [F_K_shows, if_neg c_1_0, if_neg c_1_1, if_neg c_1_2, if_pos c_1_3, if_neg c_120]] at hq; exact hq)
    · refine z_aload_n C 124 d_K_shows_123 rfl rfl ?_
      refine z_iload_n C 125 d_K_shows_124 rfl rfl ?_
      refine z_goA C (z_V C kc_K_109 (c_K_winner G l a S x1) (st := []) 0 0 rfl rfl rfl rfl (Nat.le_of_ble_eq_true rfl) ⟨⟨Nat.le_of_ble_eq_true rfl, Nat.le_of_ble_eq_true rfl⟩, Nat.le_of_ble_eq_true rfl, Nat.le_of_ble_eq_true rfl⟩ d_K_shows_125) [.int (F_K_winner S x1)] 128 rfl rfl ?_
      refine z_iconst C (-1) 129 d_K_shows_128 rfl (by decide) ?_
      refine z_icmp_ne C 136 132 d_K_shows_129 (by decide) rfl (fun c_129 => ?_) (fun c_129 => ?_)
      · refine z_iconst C 0 137 d_K_shows_136 rfl (by decide) ?_
        exact z_zret C hlk rfl hr d_K_shows_137 (by rw [show F_K_shows S x1 x2 = 0 from by rw [F_K_shows, if_neg c_1_0, if_neg c_1_1, if_neg c_1_2, if_pos c_1_3, if_pos c_120, if_neg c_129]] at hq; exact hq)
      · refine z_iconst C 1 133 d_K_shows_132 rfl (by decide) ?_
        refine z_goto C 137 d_K_shows_133 (by decide) ?_
        exact z_zret C hlk rfl hr d_K_shows_137 (by rw [show F_K_shows S x1 x2 = 1 from by rw [F_K_shows, if_neg c_1_0, if_neg c_1_1, if_neg c_1_2, if_pos c_1_3, if_pos c_120, if_pos c_129]] at hq; exact hq)
  by_cases c_1_4 : x2 = 4
  · refine z_tableIn C 138 d_K_shows_1 (by rw [c_1_4]; decide) (by rw [c_1_4]; decide) (by rw [c_1_4]; rfl) (by decide) ?_
    refine z_aload_n C 139 d_K_shows_138 rfl rfl ?_
    refine z_iload_n C 140 d_K_shows_139 rfl rfl ?_
    refine z_goA C (z_V C kc_K_112 (c_K_isPattern G l a S x1) (st := []) 0 0 rfl rfl rfl rfl (Nat.le_of_ble_eq_true rfl) ⟨⟨Nat.le_of_ble_eq_true rfl, Nat.le_of_ble_eq_true rfl⟩, Nat.le_of_ble_eq_true rfl, Nat.le_of_ble_eq_true rfl⟩ d_K_shows_140) [.int (F_K_isPattern S x1)] 143 rfl rfl ?_
    refine z_if_eq C 161 146 d_K_shows_143 (by decide) rfl (fun c_143 => ?_) (fun c_143 => ?_)
    · refine z_iconst C 0 162 d_K_shows_161 rfl (by decide) ?_
      exact z_zret C hlk rfl hr d_K_shows_162 (by rw [show F_K_shows S x1 x2 = 0 from by rw [F_K_shows, if_neg c_1_0, if_neg c_1_1, if_neg c_1_2, if_neg c_1_3, if_pos c_1_4, if_pos c_143]] at hq; exact hq)
    · refine z_aload_n C 147 d_K_shows_146 rfl rfl ?_
      refine z_iload_n C 148 d_K_shows_147 rfl rfl ?_
      refine z_goA C (z_V C kc_K_115 (c_K_lastDay G l a S x1) (st := []) 0 0 rfl rfl rfl rfl (Nat.le_of_ble_eq_true rfl) ⟨⟨Nat.le_of_ble_eq_true rfl, Nat.le_of_ble_eq_true rfl⟩, Nat.le_of_ble_eq_true rfl, Nat.le_of_ble_eq_true rfl⟩ d_K_shows_148) [.int (F_K_lastDay S x1)] 151 rfl rfl ?_
      refine z_sipush C 1500 154 d_K_shows_151 rfl (by decide) ?_
      refine z_icmp_ne C 161 157 d_K_shows_154 (by decide) rfl (fun c_154 => ?_) (fun c_154 => ?_)
      · refine z_iconst C 0 162 d_K_shows_161 rfl (by decide) ?_
        exact z_zret C hlk rfl hr d_K_shows_162 (by rw [show F_K_shows S x1 x2 = 0 from by rw [F_K_shows, if_neg c_1_0, if_neg c_1_1, if_neg c_1_2, if_neg c_1_3, if_pos c_1_4, if_neg c_143, if_neg c_154]] at hq; exact hq)
      · refine z_iconst C 1 158 d_K_shows_157 rfl (by decide) ?_
        refine z_goto C 162 d_K_shows_158 (by decide) ?_
        exact z_zret C hlk rfl hr d_K_shows_162 (by rw [show F_K_shows S x1 x2 = 1 from by rw [F_K_shows, if_neg c_1_0, if_neg c_1_1, if_neg c_1_2, if_neg c_1_3, if_pos c_1_4, if_neg c_143, if_pos c_154]] at hq; exact hq)
  by_cases c_1_5 : x2 = 5
  · refine z_tableIn C 163 d_K_shows_1 (by rw [c_1_5]; decide) (by rw [c_1_5]; decide) (by rw [c_1_5]; rfl) (by decide) ?_
    refine z_aload_n C 164 d_K_shows_163 rfl rfl ?_
    refine z_get C kf_K_25 0 (v := .int (sK_kind S)) 167 d_K_shows_164 rfl rfl rfl ?_
    refine z_iconst C 3 168 d_K_shows_167 rfl (by decide) ?_
    refine z_icmp_ne C 184 171 d_K_shows_168 (by decide) rfl (fun c_168 => ?_) (fun c_168 => ?_)
    · refine z_iconst C 0 185 d_K_shows_184 rfl (by decide) ?_
      exact z_zret C hlk rfl hr d_K_shows_185 (by rw [show F_K_shows S x1 x2 = 0 from by rw [F_K_shows, if_neg c_1_0, if_neg c_1_1, if_neg c_1_2, if_neg c_1_3, if_neg c_1_4, if_pos c_1_5, if_neg c_168]] at hq; exact hq)
    · refine z_aload_n C 172 d_K_shows_171 rfl rfl ?_
      refine z_iload_n C 173 d_K_shows_172 rfl rfl ?_
      refine z_iconst C 2 174 d_K_shows_173 rfl (by decide) ?_
      refine z_goA C (z_V C kc_K_83 (c_K_number G l a S x1 2) (st := []) 0 0 rfl rfl rfl rfl (Nat.le_of_ble_eq_true rfl) ⟨⟨Nat.le_of_ble_eq_true rfl, Nat.le_of_ble_eq_true rfl⟩, Nat.le_of_ble_eq_true rfl, Nat.le_of_ble_eq_true rfl⟩ d_K_shows_174) [.int (F_K_number S x1 2)] 177 rfl rfl ?_
      refine z_if_eq C 184 180 d_K_shows_177 (by decide) rfl (fun c_177 => ?_) (fun c_177 => ?_)
      · refine z_iconst C 0 185 d_K_shows_184 rfl (by decide) ?_
        exact z_zret C hlk rfl hr d_K_shows_185 (by rw [show F_K_shows S x1 x2 = 0 from by rw [F_K_shows, if_neg c_1_0, if_neg c_1_1, if_neg c_1_2, if_neg c_1_3, if_neg c_1_4, if_pos c_1_5, if_pos c_168, if_pos c_177]] at hq; exact hq)
      · refine z_iconst C 1 181 d_K_shows_180 rfl (by decide) ?_
        refine z_goto C 185 d_K_shows_181 (by decide) ?_
        exact z_zret C hlk rfl hr d_K_shows_185 (by rw [show F_K_shows S x1 x2 = 1 from by rw [F_K_shows, if_neg c_1_0, if_neg c_1_1, if_neg c_1_2, if_neg c_1_3, if_neg c_1_4, if_pos c_1_5, if_pos c_168, if_neg c_177]] at hq; exact hq)
  by_cases c_1_6 : x2 = 6
  · refine z_tableIn C 186 d_K_shows_1 (by rw [c_1_6]; decide) (by rw [c_1_6]; decide) (by rw [c_1_6]; rfl) (by decide) ?_
    refine z_aload_n C 187 d_K_shows_186 rfl rfl ?_
    refine z_get C kf_K_25 0 (v := .int (sK_kind S)) 190 d_K_shows_187 rfl rfl rfl ?_
    refine z_iconst C 4 191 d_K_shows_190 rfl (by decide) ?_
    refine z_icmp_ne C 208 194 d_K_shows_191 (by decide) rfl (fun c_191 => ?_) (fun c_191 => ?_)
    · refine z_iconst C 0 209 d_K_shows_208 rfl (by decide) ?_
      exact z_zret C hlk rfl hr d_K_shows_209 (by rw [show F_K_shows S x1 x2 = 0 from by rw [F_K_shows, if_neg c_1_0, if_neg c_1_1, if_neg c_1_2, if_neg c_1_3, if_neg c_1_4, if_neg c_1_5, if_pos c_1_6, if_neg c_191]] at hq; exact hq)
    · refine z_aload_n C 195 d_K_shows_194 rfl rfl ?_
      refine z_iload_n C 196 d_K_shows_195 rfl rfl ?_
      refine z_iconst C 1 197 d_K_shows_196 rfl (by decide) ?_
      refine z_goA C (z_V C kc_K_83 (c_K_number G l a S x1 1) (st := []) 0 0 rfl rfl rfl rfl (Nat.le_of_ble_eq_true rfl) ⟨⟨Nat.le_of_ble_eq_true rfl, Nat.le_of_ble_eq_true rfl⟩, Nat.le_of_ble_eq_true rfl, Nat.le_of_ble_eq_true rfl⟩ d_K_shows_197) [.int (F_K_number S x1 1)] 200 rfl rfl ?_
      refine z_iconst C (-1) 201 d_K_shows_200 rfl (by decide) ?_
      refine z_icmp_eq C 208 204 d_K_shows_201 (by decide) rfl (fun c_201 => ?_) (fun c_201 => ?_)
      · refine z_iconst C 0 209 d_K_shows_208 rfl (by decide) ?_
        exact z_zret C hlk rfl hr d_K_shows_209 (by rw [show F_K_shows S x1 x2 = 0 from by rw [F_K_shows, if_neg c_1_0, if_neg c_1_1, if_neg c_1_2, if_neg c_1_3, if_neg c_1_4, if_neg c_1_5, if_pos c_1_6, if_pos c_191, if_pos c_201]] at hq; exact hq)
      · refine z_iconst C 1 205 d_K_shows_204 rfl (by decide) ?_
        refine z_goto C 209 d_K_shows_205 (by decide) ?_
        exact z_zret C hlk rfl hr d_K_shows_209 (by rw [show F_K_shows S x1 x2 = 1 from by rw [F_K_shows, if_neg c_1_0, if_neg c_1_1, if_neg c_1_2, if_neg c_1_3, if_neg c_1_4, if_neg c_1_5, if_pos c_1_6, if_pos c_191, if_neg c_201]] at hq; exact hq)
  by_cases c_1_7 : x2 = 7
  · refine z_tableIn C 210 d_K_shows_1 (by rw [c_1_7]; decide) (by rw [c_1_7]; decide) (by rw [c_1_7]; rfl) (by decide) ?_
    refine z_aload_n C 211 d_K_shows_210 rfl rfl ?_
    refine z_get C kf_K_25 0 (v := .int (sK_kind S)) 214 d_K_shows_211 rfl rfl rfl ?_
    refine z_iconst C 5 215 d_K_shows_214 rfl (by decide) ?_
    refine z_icmp_ne C 236 218 d_K_shows_215 (by decide) rfl (fun c_215 => ?_) (fun c_215 => ?_)
    · refine z_iconst C 0 237 d_K_shows_236 rfl (by decide) ?_
      exact z_zret C hlk rfl hr d_K_shows_237 (by rw [show F_K_shows S x1 x2 = 0 from by rw [F_K_shows, if_neg c_1_0, if_neg c_1_1, if_neg c_1_2, if_neg c_1_3, if_neg c_1_4, if_neg c_1_5, if_neg c_1_6, if_pos c_1_7, if_neg c_215]] at hq; exact hq)
    · refine z_aload_n C 219 d_K_shows_218 rfl rfl ?_
      refine z_iload_n C 220 d_K_shows_219 rfl rfl ?_
      refine z_iconst C 2 221 d_K_shows_220 rfl (by decide) ?_
      refine z_goA C (z_V C kc_K_83 (c_K_number G l a S x1 2) (st := []) 0 0 rfl rfl rfl rfl (Nat.le_of_ble_eq_true rfl) ⟨⟨Nat.le_of_ble_eq_true rfl, Nat.le_of_ble_eq_true rfl⟩, Nat.le_of_ble_eq_true rfl, Nat.le_of_ble_eq_true rfl⟩ d_K_shows_221) [.int (F_K_number S x1 2)] 224 rfl rfl ?_
      refine z_aload_n C 225 d_K_shows_224 rfl rfl ?_
      refine z_iload_n C 226 d_K_shows_225 rfl rfl ?_
      refine z_goA C (z_V C kc_K_99 (c_K_timeBefore G l a S x1) (st := [.int (F_K_number S x1 2)]) 0 0 rfl rfl rfl rfl (Nat.le_of_ble_eq_true rfl) ⟨⟨Nat.le_of_ble_eq_true rfl, Nat.le_of_ble_eq_true rfl⟩, Nat.le_of_ble_eq_true rfl, Nat.le_of_ble_eq_true rfl⟩ d_K_shows_226) [.int (F_K_timeBefore S x1), .int (F_K_number S x1 2)] 229 rfl rfl ?_
      refine z_icmp_ne C 236 232 d_K_shows_229 (by decide) rfl (fun c_229 => ?_) (fun c_229 => ?_)
      · refine z_iconst C 0 237 d_K_shows_236 rfl (by decide) ?_
        exact z_zret C hlk rfl hr d_K_shows_237 (by rw [show F_K_shows S x1 x2 = 0 from by rw [F_K_shows, if_neg c_1_0, if_neg c_1_1, if_neg c_1_2, if_neg c_1_3, if_neg c_1_4, if_neg c_1_5, if_neg c_1_6, if_pos c_1_7, if_pos c_215, if_neg c_229]] at hq; exact hq)
      · refine z_iconst C 1 233 d_K_shows_232 rfl (by decide) ?_
        refine z_goto C 237 d_K_shows_233 (by decide) ?_
        exact z_zret C hlk rfl hr d_K_shows_237 (by rw [show F_K_shows S x1 x2 = 1 from by rw [F_K_shows, if_neg c_1_0, if_neg c_1_1, if_neg c_1_2, if_neg c_1_3, if_neg c_1_4, if_neg c_1_5, if_neg c_1_6, if_pos c_1_7, if_pos c_215, if_pos c_229]] at hq; exact hq)
  refine z_tableOut C 238 d_K_shows_1 (by have q0 := lv_neT c_1_0 (a := 0) (by decide); have q1 := lv_neT c_1_1 (a := 1) (by decide); have q2 := lv_neT c_1_2 (a := 2) (by decide); have q3 := lv_neT c_1_3 (a := 3) (by decide); have q4 := lv_neT c_1_4 (a := 4) (by decide); have q5 := lv_neT c_1_5 (a := 5) (by decide); have q6 := lv_neT c_1_6 (a := 6) (by decide); have q7 := lv_neT c_1_7 (a := 7) (by decide); omega) (by decide) ?_
  refine z_iconst C 0 239 d_K_shows_238 rfl (by decide) ?_
  exact z_zret C hlk rfl hr d_K_shows_239 (by rw [show F_K_shows S x1 x2 = 0 from by rw [F_K_shows, if_neg c_1_0, if_neg c_1_1, if_neg c_1_2, if_neg c_1_3, if_neg c_1_4, if_neg c_1_5, if_neg c_1_6, if_neg c_1_7]] at hq; exact hq)
