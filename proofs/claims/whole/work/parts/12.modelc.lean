
theorem zr_six {x : Int32} (h : ¬ x = 6) (h1 : zr x 0 6) : zr x 0 5 := by
  obtain ⟨j, rfl, h3, h4⟩ := h1
  refine ⟨j, rfl, h3, ?_⟩
  rcases Nat.lt_or_ge j 6 with q | q
  · omega
  · exfalso
    apply h
    have : j = 6 := by omega
    subst this
    rfl

def F_M_part (S : SM) (x1 : Int32) (x2 : Int32) : Int32 × SM :=
  if (F_M_isPart (uM_thrown S 0) x1) = 0 then
    ((-1), (uM_thrown S 0))
  else
    if (F_M_in x2 0 2) = 0 then
      ((-1), (uM_thrown S 0))
    else
      (((sM_values S) (Int32.toNatClampNeg ((3 * x1) + x2))), (uM_thrown S 0))
set_option maxRecDepth 100000 in
set_option maxHeartbeats 4000000 in
theorem c_M_part (G : zG) (l : Launch) (a : Nat → Nat) (S : SM) (x1 : Int32) (x2 : Int32) (hp : zr (sM_parts S) 0 21) : zM G l y_M_part b_M_part 3 (some .int) (zR 2 43) [.ref (a 0), .int x1, .int x2] (wM G a S) (fun r1 w1 => r1 = some (.int (F_M_part S x1 x2).1) ∧ w1 = wM G a (F_M_part S x1 x2).2) := by
  generalize hPost : (fun (r1 : Option Value) (w1 : va_W) => r1 = some (.int (F_M_part S x1 x2).1) ∧ w1 = wM G a (F_M_part S x1 x2).2) = Post
  have hq : Post (some (.int (F_M_part S x1 x2).1)) (wM G a (F_M_part S x1 x2).2) := by rw [← hPost]; exact ⟨rfl, rfl⟩
  clear hPost
  refine zM_of (by decide) (Nat.le_of_ble_eq_true rfl) ?_
  intro p e s m args below meth c C hlk hr hin
  refine z_aload_n C 1 d_M_part_0 rfl rfl ?_
  refine z_iconst C 0 2 d_M_part_1 rfl (by decide) ?_
  refine z_put C kf_M_28 kp_M 0 (wM G a (uM_thrown S 0)) 5 d_M_part_2 rfl rfl rfl (znr_i _) (zft_i _) (Nat.le_of_ble_eq_true rfl) (wM_put_thrown G a S 0) ?_
  refine z_aload_n C 6 d_M_part_5 rfl rfl ?_
  refine z_iload_n C 7 d_M_part_6 rfl rfl ?_
  refine z_goA C (z_V C kc_M_89 (c_M_isPart G l a (uM_thrown S 0) x1) (st := []) 0 3 rfl rfl rfl rfl (Nat.le_of_ble_eq_true rfl) ⟨⟨Nat.le_of_ble_eq_true rfl, Nat.le_of_ble_eq_true rfl⟩, Nat.le_of_ble_eq_true rfl, Nat.le_of_ble_eq_true rfl⟩ d_M_part_7) [.int (F_M_isPart (uM_thrown S 0) x1)] 10 rfl rfl ?_
  refine z_if_eq C 35 13 d_M_part_10 (by decide) rfl (fun c_10 => ?_) (fun c_10 => ?_)
  · refine z_iconst C (-1) 36 d_M_part_35 rfl (by decide) ?_
    exact z_iret C hlk hr d_M_part_36 (by rw [show F_M_part S x1 x2 = ((-1), (uM_thrown S 0)) from by rw [F_M_part, if_pos c_10]] at hq; exact hq)
  · refine z_iload_n C 14 d_M_part_13 rfl rfl ?_
    refine z_iconst C 0 15 d_M_part_14 rfl (by decide) ?_
    refine z_iconst C 2 16 d_M_part_15 rfl (by decide) ?_
    refine z_go0 C (z_S C kc_M_61 (c_M_in G l x2 0 2) (st := []) rfl rfl (Nat.le_of_ble_eq_true rfl) ⟨⟨Nat.le_of_ble_eq_true rfl, Nat.le_of_ble_eq_true rfl⟩, Nat.le_of_ble_eq_true rfl, Nat.le_of_ble_eq_true rfl⟩ d_M_part_16) [0, 1, 2, 3] [.int (F_M_in x2 0 2)] 19 rfl rfl rfl rfl ?_
    refine z_if_eq C 35 22 d_M_part_19 (by decide) rfl (fun c_19 => ?_) (fun c_19 => ?_)
    · refine z_iconst C (-1) 36 d_M_part_35 rfl (by decide) ?_
      exact z_iret C hlk hr d_M_part_36 (by rw [show F_M_part S x1 x2 = ((-1), (uM_thrown S 0)) from by rw [F_M_part, if_neg c_10, if_pos c_19]] at hq; exact hq)
    · refine z_aload_n C 23 d_M_part_22 rfl rfl ?_
      refine z_get C kf_M_13 0 (v := .ref (a 1)) 26 d_M_part_23 rfl rfl rfl ?_
      refine z_iconst C 3 27 d_M_part_26 rfl (by decide) ?_
      refine z_iload_n C 28 d_M_part_27 rfl rfl ?_
      refine z_imul C 29 d_M_part_28 rfl ?_
      refine z_iload_n C 30 d_M_part_29 rfl rfl ?_
      refine z_iadd C 31 d_M_part_30 rfl ?_
      refine z_iald C 1 0 (f := (sM_values S)) 32 d_M_part_31 rfl rfl rfl (zr_in (zr_add (zr_mul (zr_k 3 rfl) (zr_isPart c_10 hp)) (zr_inM c_19 (show zr 2 0 2 from zr_wide (zr_k 2 rfl) (by decide) (by decide)) (by decide))) (by decide) (by decide)) ?_
      refine z_goto C 36 d_M_part_32 (by decide) ?_
      exact z_iret C hlk hr d_M_part_36 (by rw [show F_M_part S x1 x2 = (((sM_values S) (Int32.toNatClampNeg ((3 * x1) + x2))), (uM_thrown S 0)) from by rw [F_M_part, if_neg c_10, if_neg c_19]] at hq; exact hq)

def L_M_letter_9 : Nat → SM → Int32 → Int32 → Int32 → Int32 × SM
  | 0, S, v1, v2, v3 => (0, S)
  | n + 1, S, v1, v2, v3 =>
    if (sM_parts S) ≤ v3 then
      ((-1), S)
    else
      if (sM_kind S) = 0 then
        if v2 < 0 then
          ((-1), S)
        else
          if ((sM_values S) (Int32.toNatClampNeg (3 * v3))) < v2 then
            (L_M_letter_9 n S v1 (v2 - (((sM_values S) (Int32.toNatClampNeg (3 * v3))) + 1)) (v3 + 1))
          else
            if v2 = ((sM_values S) (Int32.toNatClampNeg (3 * v3))) then
              (10, S)
            else
              (((sM_title S) (Int32.toNatClampNeg ((6 * v3) + v2))), S)
      else
        ((-1), S)
set_option maxRecDepth 100000 in
set_option maxHeartbeats 4000000 in
theorem l_M_letter_9 (G : zG) (l : Launch) (a : Nat → Nat) {p : Program} {e : Env} {s : State} {m : MethodId} {args : Array Value} {below : List Frame} {meth : Method} {c : Code} {w0 : va_W} {Post : Option Value → va_W → Prop} (C : zC p s m args meth c b_M_letter 5 N_M G (va_A w0 s.heap.size)) (hlk : meth.locks = false) (hr : meth.sig.returnType = some .int) :
    ∀ (n : Nat) (S : SM) (v1 : Int32) (v2 : Int32) (v3 : Int32), (Int32.toInt (sM_parts S) - Int32.toInt v3).toNat < n → (zr (sM_parts S) 0 21 ∧ (sM_kind S = 0 → ∀ k : Int32, ¬ k < 0 → ¬ sM_parts S ≤ k → zr (sM_values S (Int32.toNatClampNeg (3 * k))) 0 6) ∧ ¬ v3 < 0) → Post (some (.int (L_M_letter_9 n S v1 v2 v3).1)) (wM G a (L_M_letter_9 n S v1 v2 v3).2) → zV p l e (zR 0 0) s m args below meth c 5 G (va_A w0 s.heap.size) (MQ below (zQ G w0 s.heap.size Post) args s 0 0 (va_A w0 s.heap.size)) 0 0 (wM G a S) 9 [(0, .ref (a 0)), (1, .int v1), (2, .int v2), (3, .int v3)] [] := by
  intro n
  induction n with
  | zero => intro S v1 v2 v3 h; exact absurd h (Nat.not_lt_zero _)
  | succ n ih =>
    intro S v1 v2 v3 hmu hpre hq
    refine z_iload_n C 10 d_M_letter_9 rfl rfl ?_
    refine z_aload_n C 11 d_M_letter_10 rfl rfl ?_
    refine z_get C kf_M_65 0 (v := .int (sM_parts S)) 14 d_M_letter_11 rfl rfl rfl ?_
    refine z_icmp_ge C 80 17 d_M_letter_14 (by decide) rfl (fun c_14 => ?_) (fun c_14 => ?_)
    · refine z_iconst C (-1) 81 d_M_letter_80 rfl (by decide) ?_
      exact z_iret C hlk hr d_M_letter_81 (by rw [show L_M_letter_9 (n + 1) S v1 v2 v3 = ((-1), S) from by rw [L_M_letter_9, if_pos c_14]] at hq; exact hq)
    · refine z_aload_n C 18 d_M_letter_17 rfl rfl ?_
      refine z_get C kf_M_9 0 (v := .int (sM_kind S)) 21 d_M_letter_18 rfl rfl rfl ?_
      refine z_if_ne C 80 24 d_M_letter_21 (by decide) rfl (fun c_21 => ?_) (fun c_21 => ?_)
      · refine z_iconst C (-1) 81 d_M_letter_80 rfl (by decide) ?_
        exact z_iret C hlk hr d_M_letter_81 (by rw [show L_M_letter_9 (n + 1) S v1 v2 v3 = ((-1), S) from by rw [L_M_letter_9, if_neg c_14, if_neg c_21]] at hq; exact hq)
      · refine z_iload_n C 25 d_M_letter_24 rfl rfl ?_
        refine z_if_lt C 80 28 d_M_letter_25 (by decide) rfl (fun c_25 => ?_) (fun c_25 => ?_)
        · refine z_iconst C (-1) 81 d_M_letter_80 rfl (by decide) ?_
          exact z_iret C hlk hr d_M_letter_81 (by rw [show L_M_letter_9 (n + 1) S v1 v2 v3 = ((-1), S) from by rw [L_M_letter_9, if_neg c_14, if_pos c_21, if_pos c_25]] at hq; exact hq)
        · refine z_aload_n C 29 d_M_letter_28 rfl rfl ?_
          refine z_get C kf_M_13 0 (v := .ref (a 1)) 32 d_M_letter_29 rfl rfl rfl ?_
          refine z_iconst C 3 33 d_M_letter_32 rfl (by decide) ?_
          refine z_iload_n C 34 d_M_letter_33 rfl rfl ?_
          refine z_imul C 35 d_M_letter_34 rfl ?_
          refine z_iald C 1 0 (f := (sM_values S)) 36 d_M_letter_35 rfl rfl rfl (zr_in (zr_mul (zr_k 3 rfl) (zr_lt hpre.2.2 c_14 hpre.1 (by decide))) (by decide) (by decide)) ?_
          refine z_istore C [(4, .int ((sM_values S) (Int32.toNatClampNeg (3 * v3)))), (0, .ref (a 0)), (1, .int v1), (2, .int v2), (3, .int v3)] 38 d_M_letter_36 rfl (by decide) rfl ?_
          refine z_iload_n C 39 d_M_letter_38 rfl rfl ?_
          refine z_iload C 41 d_M_letter_39 rfl rfl ?_
          refine z_icmp_gt C 67 44 d_M_letter_41 (by decide) rfl (fun c_41 => ?_) (fun c_41 => ?_)
          · refine z_iload_n C 68 d_M_letter_67 rfl rfl ?_
            refine z_iload C 70 d_M_letter_68 rfl rfl ?_
            refine z_iconst C 1 71 d_M_letter_70 rfl (by decide) ?_
            refine z_iadd C 72 d_M_letter_71 rfl ?_
            refine z_isub C 73 d_M_letter_72 rfl ?_
            refine z_istore_n C [(2, .int (v2 - (((sM_values S) (Int32.toNatClampNeg (3 * v3))) + 1))), (4, .int ((sM_values S) (Int32.toNatClampNeg (3 * v3)))), (0, .ref (a 0)), (1, .int v1), (3, .int v3)] 74 d_M_letter_73 rfl (by decide) rfl ?_
            refine z_iinc C (v3 + 1) [(3, .int (v3 + 1)), (2, .int (v2 - (((sM_values S) (Int32.toNatClampNeg (3 * v3))) + 1))), (4, .int ((sM_values S) (Int32.toNatClampNeg (3 * v3)))), (0, .ref (a 0)), (1, .int v1)] 77 d_M_letter_74 rfl (by decide) rfl rfl rfl ?_
            refine z_goto C 9 d_M_letter_77 (by decide) ?_
            refine z_lvs [3, 4, 1, 0] [(0, .ref (a 0)), (1, .int v1), (2, .int (v2 - (((sM_values S) (Int32.toNatClampNeg (3 * v3))) + 1))), (3, .int (v3 + 1))] rfl ?_
            exact ih S v1 (v2 - (((sM_values S) (Int32.toNatClampNeg (3 * v3))) + 1)) (v3 + 1) (zdec c_14 hmu) ⟨hpre.1, hpre.2.1, zi_nn c_14 hpre.2.2⟩ (by rw [show L_M_letter_9 (n + 1) S v1 v2 v3 = (L_M_letter_9 n S v1 (v2 - (((sM_values S) (Int32.toNatClampNeg (3 * v3))) + 1)) (v3 + 1)) from by rw [L_M_letter_9, if_neg c_14, if_pos c_21, if_neg c_25, if_pos c_41]] at hq; exact hq)
          · refine z_iload_n C 45 d_M_letter_44 rfl rfl ?_
            refine z_iload C 47 d_M_letter_45 rfl rfl ?_
            refine z_icmp_ne C 55 50 d_M_letter_47 (by decide) rfl (fun c_47 => ?_) (fun c_47 => ?_)
            · refine z_aload_n C 56 d_M_letter_55 rfl rfl ?_
              refine z_get C kf_M_17 0 (v := .ref (a 2)) 59 d_M_letter_56 rfl rfl rfl ?_
              refine z_bipush C 6 61 d_M_letter_59 rfl (by decide) ?_
              refine z_iload_n C 62 d_M_letter_61 rfl rfl ?_
              refine z_imul C 63 d_M_letter_62 rfl ?_
              refine z_iload_n C 64 d_M_letter_63 rfl rfl ?_
              refine z_iadd C 65 d_M_letter_64 rfl ?_
              refine z_bald C 2 1 (f := (sM_title S)) 66 d_M_letter_65 rfl rfl rfl (zr_in (zr_add (zr_mul (zr_k 6 rfl) (zr_lt hpre.2.2 c_14 hpre.1 (by decide))) (zr_le c_25 c_41 (hpre.2.1 c_21 v3 hpre.2.2 c_14) (by decide))) (by decide) (by decide)) ?_
              exact z_iret C hlk hr d_M_letter_66 (by rw [show L_M_letter_9 (n + 1) S v1 v2 v3 = (((sM_title S) (Int32.toNatClampNeg ((6 * v3) + v2))), S) from by rw [L_M_letter_9, if_neg c_14, if_pos c_21, if_neg c_25, if_neg c_41, if_neg c_47]] at hq; exact hq)
            · refine z_bipush C 10 52 d_M_letter_50 rfl (by decide) ?_
              refine z_goto C 66 d_M_letter_52 (by decide) ?_
              exact z_iret C hlk hr d_M_letter_66 (by rw [show L_M_letter_9 (n + 1) S v1 v2 v3 = (10, S) from by rw [L_M_letter_9, if_neg c_14, if_pos c_21, if_neg c_25, if_neg c_41, if_pos c_47]] at hq; exact hq)
def F_M_letter (S : SM) (x1 : Int32) : Int32 × SM :=
  (L_M_letter_9 ((Int32.toInt (sM_parts (uM_thrown S 0)) - Int32.toInt 0).toNat + 1) (uM_thrown S 0) x1 x1 0)
set_option maxRecDepth 100000 in
set_option maxHeartbeats 4000000 in
theorem c_M_letter (G : zG) (l : Launch) (a : Nat → Nat) (S : SM) (x1 : Int32) (hp : zr (sM_parts S) 0 21) (hl : sM_kind S = 0 → ∀ k : Int32, ¬ k < 0 → ¬ sM_parts S ≤ k → zr (sM_values S (Int32.toNatClampNeg (3 * k))) 0 6) : zM G l y_M_letter b_M_letter 5 (some .int) (zR 0 0) [.ref (a 0), .int x1] (wM G a S) (fun r1 w1 => r1 = some (.int (F_M_letter S x1).1) ∧ w1 = wM G a (F_M_letter S x1).2) := by
  generalize hPost : (fun (r1 : Option Value) (w1 : va_W) => r1 = some (.int (F_M_letter S x1).1) ∧ w1 = wM G a (F_M_letter S x1).2) = Post
  have hq : Post (some (.int (F_M_letter S x1).1)) (wM G a (F_M_letter S x1).2) := by rw [← hPost]; exact ⟨rfl, rfl⟩
  clear hPost
  refine zM_of (by decide) (Nat.le_of_ble_eq_true rfl) ?_
  intro p e s m args below meth c C hlk hr hin
  refine z_aload_n C 1 d_M_letter_0 rfl rfl ?_
  refine z_iconst C 0 2 d_M_letter_1 rfl (by decide) ?_
  refine z_put C kf_M_28 kp_M 0 (wM G a (uM_thrown S 0)) 5 d_M_letter_2 rfl rfl rfl (znr_i _) (zft_i _) (Nat.le_of_ble_eq_true rfl) (wM_put_thrown G a S 0) ?_
  refine z_iload_n C 6 d_M_letter_5 rfl rfl ?_
  refine z_istore_n C [(2, .int x1), (0, .ref (a 0)), (1, .int x1)] 7 d_M_letter_6 rfl (by decide) rfl ?_
  refine z_iconst C 0 8 d_M_letter_7 rfl (by decide) ?_
  refine z_istore_n C [(3, .int 0), (2, .int x1), (0, .ref (a 0)), (1, .int x1)] 9 d_M_letter_8 rfl (by decide) rfl ?_
  refine z_lvs [2, 3, 1, 0] [(0, .ref (a 0)), (1, .int x1), (2, .int x1), (3, .int 0)] rfl ?_
  exact l_M_letter_9 G l a C hlk hr _ (uM_thrown S 0) x1 x1 0 (Nat.lt_succ_self _) ⟨hp, hl, by decide⟩ (by rw [show F_M_letter S x1 = (L_M_letter_9 ((Int32.toInt (sM_parts (uM_thrown S 0)) - Int32.toInt 0).toNat + 1) (uM_thrown S 0) x1 x1 0) from by rw [F_M_letter]] at hq; exact hq)

def L_M_wins_22 (κ : SM → Int32 → Int32 → Int32 → Int32 → Int32) : Nat → SM → Int32 → Int32 → Int32 → Int32 → Int32 → Int32
  | 0, S, v1, v2, v3, v4, v5 => 0
  | n + 1, S, v1, v2, v3, v4, v5 =>
    if v2 ≤ v5 then
      (κ S v1 v2 v3 v4)
    else
      if ((((sM_values S) (Int32.toNatClampNeg ((3 * v1) + 1))) >>> ((2 * v5) &&& 31)) &&& 3) = v3 then
        (L_M_wins_22 κ n S v1 v2 v3 (v4 + 1) (v5 + 1))
      else
        (L_M_wins_22 κ n S v1 v2 v3 (v4 + 0) (v5 + 1))
set_option maxRecDepth 100000 in
set_option maxHeartbeats 4000000 in
theorem l_M_wins_22 (G : zG) (l : Launch) (a : Nat → Nat) {y3 : Int32} {p : Program} {e : Env} {s : State} {m : MethodId} {args : Array Value} {below : List Frame} {meth : Method} {c : Code} {w0 : va_W} {Post : Option Value → va_W → Prop} (C : zC p s m args meth c b_M_wins 6 N_M G (va_A w0 s.heap.size)) (hlk : meth.locks = false) (hr : meth.sig.returnType = some .int) (κ : SM → Int32 → Int32 → Int32 → Int32 → Int32) (hk : ∀ (S9 : SM) (u1 : Int32) (u2 : Int32) (u3 : Int32) (u4 : Int32), (zr u1 0 20 ∧ u3 = y3) → Post (some (.int (κ S9 u1 u2 u3 u4))) (wM G a S9) → zV p l e (zR 0 0) s m args below meth c 6 G (va_A w0 s.heap.size) (MQ below (zQ G w0 s.heap.size Post) args s 0 0 (va_A w0 s.heap.size)) 0 0 (wM G a S9) 65 [(0, .ref (a 0)), (1, .int u1), (2, .int u2), (3, .int u3), (4, .int u4)] []) :
    ∀ (n : Nat) (S : SM) (v1 : Int32) (v2 : Int32) (v3 : Int32) (v4 : Int32) (v5 : Int32), (Int32.toInt v2 - Int32.toInt v5).toNat < n → (zr v1 0 20 ∧ v3 = y3) → Post (some (.int (L_M_wins_22 κ n S v1 v2 v3 v4 v5))) (wM G a S) → zV p l e (zR 0 0) s m args below meth c 6 G (va_A w0 s.heap.size) (MQ below (zQ G w0 s.heap.size Post) args s 0 0 (va_A w0 s.heap.size)) 0 0 (wM G a S) 22 [(0, .ref (a 0)), (1, .int v1), (2, .int v2), (3, .int v3), (4, .int v4), (5, .int v5)] [] := by
  intro n
  induction n with
  | zero => intro S v1 v2 v3 v4 v5 h; exact absurd h (Nat.not_lt_zero _)
  | succ n ih =>
    intro S v1 v2 v3 v4 v5 hmu hpre hq
    refine z_iload C 24 d_M_wins_22 rfl rfl ?_
    refine z_iload_n C 25 d_M_wins_24 rfl rfl ?_
    refine z_icmp_ge C 65 28 d_M_wins_25 (by decide) rfl (fun c_25 => ?_) (fun c_25 => ?_)
    · refine z_lvs [0, 1, 2, 3, 4] [(0, .ref (a 0)), (1, .int v1), (2, .int v2), (3, .int v3), (4, .int v4)] rfl ?_
      exact hk S v1 v2 v3 v4 hpre (by rw [show L_M_wins_22 κ (n + 1) S v1 v2 v3 v4 v5 = (κ S v1 v2 v3 v4) from by rw [L_M_wins_22, if_pos c_25]] at hq; exact hq)
    · refine z_iload C 30 d_M_wins_28 rfl rfl ?_
      refine z_aload_n C 31 d_M_wins_30 rfl rfl ?_
      refine z_get C kf_M_13 0 (v := .ref (a 1)) 34 d_M_wins_31 rfl rfl rfl ?_
      refine z_iconst C 3 35 d_M_wins_34 rfl (by decide) ?_
      refine z_iload_n C 36 d_M_wins_35 rfl rfl ?_
      refine z_imul C 37 d_M_wins_36 rfl ?_
      refine z_iconst C 1 38 d_M_wins_37 rfl (by decide) ?_
      refine z_iadd C 39 d_M_wins_38 rfl ?_
      refine z_iald C 1 0 (f := (sM_values S)) 40 d_M_wins_39 rfl rfl rfl (zr_in (zr_add (zr_mul (zr_k 3 rfl) hpre.1) (zr_k 1 rfl)) (by decide) (by decide)) ?_
      refine z_iconst C 2 41 d_M_wins_40 rfl (by decide) ?_
      refine z_iload C 43 d_M_wins_41 rfl rfl ?_
      refine z_imul C 44 d_M_wins_43 rfl ?_
      refine z_ishr C 45 d_M_wins_44 rfl ?_
      refine z_iconst C 3 46 d_M_wins_45 rfl (by decide) ?_
      refine z_iand C 47 d_M_wins_46 rfl ?_
      refine z_iload_n C 48 d_M_wins_47 rfl rfl ?_
      refine z_icmp_ne C 55 51 d_M_wins_48 (by decide) rfl (fun c_48 => ?_) (fun c_48 => ?_)
      · refine z_iconst C 0 56 d_M_wins_55 rfl (by decide) ?_
        refine z_iadd C 57 d_M_wins_56 rfl ?_
        refine z_istore C [(4, .int (v4 + 0)), (0, .ref (a 0)), (1, .int v1), (2, .int v2), (3, .int v3), (5, .int v5)] 59 d_M_wins_57 rfl (by decide) rfl ?_
        refine z_iinc C (v5 + 1) [(5, .int (v5 + 1)), (4, .int (v4 + 0)), (0, .ref (a 0)), (1, .int v1), (2, .int v2), (3, .int v3)] 62 d_M_wins_59 rfl (by decide) rfl rfl rfl ?_
        refine z_goto C 22 d_M_wins_62 (by decide) ?_
        refine z_lvs [2, 3, 4, 5, 1, 0] [(0, .ref (a 0)), (1, .int v1), (2, .int v2), (3, .int v3), (4, .int (v4 + 0)), (5, .int (v5 + 1))] rfl ?_
        exact ih S v1 v2 v3 (v4 + 0) (v5 + 1) (zdec c_25 hmu) hpre (by rw [show L_M_wins_22 κ (n + 1) S v1 v2 v3 v4 v5 = (L_M_wins_22 κ n S v1 v2 v3 (v4 + 0) (v5 + 1)) from by rw [L_M_wins_22, if_neg c_25, if_neg c_48]] at hq; exact hq)
      · refine z_iconst C 1 52 d_M_wins_51 rfl (by decide) ?_
        refine z_goto C 56 d_M_wins_52 (by decide) ?_
        refine z_iadd C 57 d_M_wins_56 rfl ?_
        refine z_istore C [(4, .int (v4 + 1)), (0, .ref (a 0)), (1, .int v1), (2, .int v2), (3, .int v3), (5, .int v5)] 59 d_M_wins_57 rfl (by decide) rfl ?_
        refine z_iinc C (v5 + 1) [(5, .int (v5 + 1)), (4, .int (v4 + 1)), (0, .ref (a 0)), (1, .int v1), (2, .int v2), (3, .int v3)] 62 d_M_wins_59 rfl (by decide) rfl rfl rfl ?_
        refine z_goto C 22 d_M_wins_62 (by decide) ?_
        refine z_lvs [2, 3, 4, 5, 1, 0] [(0, .ref (a 0)), (1, .int v1), (2, .int v2), (3, .int v3), (4, .int (v4 + 1)), (5, .int (v5 + 1))] rfl ?_
        exact ih S v1 v2 v3 (v4 + 1) (v5 + 1) (zdec c_25 hmu) hpre (by rw [show L_M_wins_22 κ (n + 1) S v1 v2 v3 v4 v5 = (L_M_wins_22 κ n S v1 v2 v3 (v4 + 1) (v5 + 1)) from by rw [L_M_wins_22, if_neg c_25, if_pos c_48]] at hq; exact hq)
def L_M_wins_11 : Nat → SM → Int32 → Int32 → Int32 → Int32
  | 0, S, v1, v2, v3 => 0
  | n + 1, S, v1, v2, v3 =>
    if 3 ≤ v3 then
      (-1)
    else
      (L_M_wins_22 (fun S9 u1 u2 u3 u4 =>
          if (2 * u4) ≤ u2 then
            (L_M_wins_11 n S9 u1 u2 (u3 + 1))
          else
            u3) ((Int32.toInt v2 - Int32.toInt 0).toNat + 1) S v1 v2 v3 0 0)
set_option maxRecDepth 100000 in
set_option maxHeartbeats 4000000 in
theorem l_M_wins_11 (G : zG) (l : Launch) (a : Nat → Nat) {p : Program} {e : Env} {s : State} {m : MethodId} {args : Array Value} {below : List Frame} {meth : Method} {c : Code} {w0 : va_W} {Post : Option Value → va_W → Prop} (C : zC p s m args meth c b_M_wins 6 N_M G (va_A w0 s.heap.size)) (hlk : meth.locks = false) (hr : meth.sig.returnType = some .int) :
    ∀ (n : Nat) (S : SM) (v1 : Int32) (v2 : Int32) (v3 : Int32), (Int32.toInt 3 - Int32.toInt v3).toNat < n → (zr v1 0 20) → Post (some (.int (L_M_wins_11 n S v1 v2 v3))) (wM G a S) → zV p l e (zR 0 0) s m args below meth c 6 G (va_A w0 s.heap.size) (MQ below (zQ G w0 s.heap.size Post) args s 0 0 (va_A w0 s.heap.size)) 0 0 (wM G a S) 11 [(0, .ref (a 0)), (1, .int v1), (2, .int v2), (3, .int v3)] [] := by
  intro n
  induction n with
  | zero => intro S v1 v2 v3 h; exact absurd h (Nat.not_lt_zero _)
  | succ n ih =>
    intro S v1 v2 v3 hmu hpre hq
    refine z_iload_n C 12 d_M_wins_11 rfl rfl ?_
    refine z_iconst C 3 13 d_M_wins_12 rfl (by decide) ?_
    refine z_icmp_ge C 81 16 d_M_wins_13 (by decide) rfl (fun c_13 => ?_) (fun c_13 => ?_)
    · refine z_iconst C (-1) 82 d_M_wins_81 rfl (by decide) ?_
      exact z_iret C hlk hr d_M_wins_82 (by rw [show L_M_wins_11 (n + 1) S v1 v2 v3 = (-1) from by rw [L_M_wins_11, if_pos c_13]] at hq; exact hq)
    · refine z_iconst C 0 17 d_M_wins_16 rfl (by decide) ?_
      refine z_istore C [(4, .int 0), (0, .ref (a 0)), (1, .int v1), (2, .int v2), (3, .int v3)] 19 d_M_wins_17 rfl (by decide) rfl ?_
      refine z_iconst C 0 20 d_M_wins_19 rfl (by decide) ?_
      refine z_istore C [(5, .int 0), (4, .int 0), (0, .ref (a 0)), (1, .int v1), (2, .int v2), (3, .int v3)] 22 d_M_wins_20 rfl (by decide) rfl ?_
      refine z_lvs [2, 3, 4, 5, 1, 0] [(0, .ref (a 0)), (1, .int v1), (2, .int v2), (3, .int v3), (4, .int 0), (5, .int 0)] rfl ?_
      refine l_M_wins_22 G l a C hlk hr (fun S9 u1 u2 u3 u4 =>
          if (2 * u4) ≤ u2 then
            (L_M_wins_11 n S9 u1 u2 (u3 + 1))
          else
            u3) (fun S9 u1 u2 u3 u4 hx hq => ?_) _ S v1 v2 v3 0 0 (Nat.lt_succ_self _) ⟨hpre, rfl⟩ (by rw [show L_M_wins_11 (n + 1) S v1 v2 v3 = (L_M_wins_22 (fun S9 u1 u2 u3 u4 =>
          if (2 * u4) ≤ u2 then
            (L_M_wins_11 n S9 u1 u2 (u3 + 1))
          else
            u3) ((Int32.toInt v2 - Int32.toInt 0).toNat + 1) S v1 v2 v3 0 0) from by rw [L_M_wins_11, if_neg c_13]] at hq; exact hq)
      refine z_iconst C 2 66 d_M_wins_65 rfl (by decide) ?_
      refine z_iload C 68 d_M_wins_66 rfl rfl ?_
      refine z_imul C 69 d_M_wins_68 rfl ?_
      refine z_iload_n C 70 d_M_wins_69 rfl rfl ?_
      refine z_icmp_le C 75 73 d_M_wins_70 (by decide) rfl (fun c_70 => ?_) (fun c_70 => ?_)
      · refine z_iinc C (u3 + 1) [(3, .int (u3 + 1)), (0, .ref (a 0)), (1, .int u1), (2, .int u2), (4, .int u4)] 78 d_M_wins_75 rfl (by decide) rfl rfl rfl ?_
        refine z_goto C 11 d_M_wins_78 (by decide) ?_
        refine z_lvs [1, 2, 3, 0] [(0, .ref (a 0)), (1, .int u1), (2, .int u2), (3, .int (u3 + 1))] rfl ?_
        exact ih S9 u1 u2 (u3 + 1) (by obtain ⟨_, hx2⟩ := hx; subst hx2; exact zdec c_13 hmu) hx.1 (by (try dsimp only at hq); rw [if_pos c_70] at hq; exact hq)
      · refine z_iload_n C 74 d_M_wins_73 rfl rfl ?_
        exact z_iret C hlk hr d_M_wins_74 (by (try dsimp only at hq); rw [if_neg c_70] at hq; exact hq)
def F_M_wins (S : SM) (x1 : Int32) : Int32 :=
  (L_M_wins_11 ((Int32.toInt 3 - Int32.toInt 0).toNat + 1) S x1 ((sM_values S) (Int32.toNatClampNeg (3 * x1))) 0)
set_option maxRecDepth 100000 in
set_option maxHeartbeats 4000000 in
theorem c_M_wins (G : zG) (l : Launch) (a : Nat → Nat) (S : SM) (x1 : Int32) (hf : zr x1 0 20) : zM G l y_M_wins b_M_wins 6 (some .int) (zR 0 0) [.ref (a 0), .int x1] (wM G a S) (fun r1 w1 => r1 = some (.int (F_M_wins S x1)) ∧ w1 = wM G a S) := by
  generalize hPost : (fun (r1 : Option Value) (w1 : va_W) => r1 = some (.int (F_M_wins S x1)) ∧ w1 = wM G a S) = Post
  have hq : Post (some (.int (F_M_wins S x1))) (wM G a S) := by rw [← hPost]; exact ⟨rfl, rfl⟩
  clear hPost
  refine zM_of (by decide) (Nat.le_of_ble_eq_true rfl) ?_
  intro p e s m args below meth c C hlk hr hin
  refine z_aload_n C 1 d_M_wins_0 rfl rfl ?_
  refine z_get C kf_M_13 0 (v := .ref (a 1)) 4 d_M_wins_1 rfl rfl rfl ?_
  refine z_iconst C 3 5 d_M_wins_4 rfl (by decide) ?_
  refine z_iload_n C 6 d_M_wins_5 rfl rfl ?_
  refine z_imul C 7 d_M_wins_6 rfl ?_
  refine z_iald C 1 0 (f := (sM_values S)) 8 d_M_wins_7 rfl rfl rfl (zr_in (zr_mul (zr_k 3 rfl) hf) (by decide) (by decide)) ?_
  refine z_istore_n C [(2, .int ((sM_values S) (Int32.toNatClampNeg (3 * x1)))), (0, .ref (a 0)), (1, .int x1)] 9 d_M_wins_8 rfl (by decide) rfl ?_
  refine z_iconst C 0 10 d_M_wins_9 rfl (by decide) ?_
  refine z_istore_n C [(3, .int 0), (2, .int ((sM_values S) (Int32.toNatClampNeg (3 * x1)))), (0, .ref (a 0)), (1, .int x1)] 11 d_M_wins_10 rfl (by decide) rfl ?_
  refine z_lvs [2, 3, 1, 0] [(0, .ref (a 0)), (1, .int x1), (2, .int ((sM_values S) (Int32.toNatClampNeg (3 * x1)))), (3, .int 0)] rfl ?_
  exact l_M_wins_11 G l a C hlk hr _ S x1 ((sM_values S) (Int32.toNatClampNeg (3 * x1))) 0 (Nat.lt_succ_self _) hf (by rw [show F_M_wins S x1 = (L_M_wins_11 ((Int32.toInt 3 - Int32.toInt 0).toNat + 1) S x1 ((sM_values S) (Int32.toNatClampNeg (3 * x1))) 0) from by rw [F_M_wins]] at hq; exact hq)

def F_M_majority (S : SM) (x1 : Int32) : Int32 × SM :=
  if (sM_kind S) = 1 then
    if (F_M_isPart (uM_thrown S 0) x1) = 0 then
      ((-1), (uM_thrown S 0))
    else
      ((F_M_wins (uM_thrown S 0) x1), (uM_thrown S 0))
  else
    ((-1), (uM_thrown S 0))
set_option maxRecDepth 100000 in
set_option maxHeartbeats 4000000 in
theorem c_M_majority (G : zG) (l : Launch) (a : Nat → Nat) (S : SM) (x1 : Int32) (hp : zr (sM_parts S) 0 21) : zM G l y_M_majority b_M_majority 2 (some .int) (zR 2 43) [.ref (a 0), .int x1] (wM G a S) (fun r1 w1 => r1 = some (.int (F_M_majority S x1).1) ∧ w1 = wM G a (F_M_majority S x1).2) := by
  generalize hPost : (fun (r1 : Option Value) (w1 : va_W) => r1 = some (.int (F_M_majority S x1).1) ∧ w1 = wM G a (F_M_majority S x1).2) = Post
  have hq : Post (some (.int (F_M_majority S x1).1)) (wM G a (F_M_majority S x1).2) := by rw [← hPost]; exact ⟨rfl, rfl⟩
  clear hPost
  refine zM_of (by decide) (Nat.le_of_ble_eq_true rfl) ?_
  intro p e s m args below meth c C hlk hr hin
  refine z_aload_n C 1 d_M_majority_0 rfl rfl ?_
  refine z_iconst C 0 2 d_M_majority_1 rfl (by decide) ?_
  refine z_put C kf_M_28 kp_M 0 (wM G a (uM_thrown S 0)) 5 d_M_majority_2 rfl rfl rfl (znr_i _) (zft_i _) (Nat.le_of_ble_eq_true rfl) (wM_put_thrown G a S 0) ?_
  refine z_aload_n C 6 d_M_majority_5 rfl rfl ?_
  refine z_get C kf_M_9 0 (v := .int (sM_kind S)) 9 d_M_majority_6 rfl rfl rfl ?_
  refine z_iconst C 1 10 d_M_majority_9 rfl (by decide) ?_
  refine z_icmp_ne C 29 13 d_M_majority_10 (by decide) rfl (fun c_10 => ?_) (fun c_10 => ?_)
  · refine z_iconst C (-1) 30 d_M_majority_29 rfl (by decide) ?_
    exact z_iret C hlk hr d_M_majority_30 (by rw [show F_M_majority S x1 = ((-1), (uM_thrown S 0)) from by rw [F_M_majority, if_neg c_10]] at hq; exact hq)
  · refine z_aload_n C 14 d_M_majority_13 rfl rfl ?_
    refine z_iload_n C 15 d_M_majority_14 rfl rfl ?_
    refine z_goA C (z_V C kc_M_89 (c_M_isPart G l a (uM_thrown S 0) x1) (st := []) 0 3 rfl rfl rfl rfl (Nat.le_of_ble_eq_true rfl) ⟨⟨Nat.le_of_ble_eq_true rfl, Nat.le_of_ble_eq_true rfl⟩, Nat.le_of_ble_eq_true rfl, Nat.le_of_ble_eq_true rfl⟩ d_M_majority_15) [.int (F_M_isPart (uM_thrown S 0) x1)] 18 rfl rfl ?_
    refine z_if_eq C 29 21 d_M_majority_18 (by decide) rfl (fun c_18 => ?_) (fun c_18 => ?_)
    · refine z_iconst C (-1) 30 d_M_majority_29 rfl (by decide) ?_
      exact z_iret C hlk hr d_M_majority_30 (by rw [show F_M_majority S x1 = ((-1), (uM_thrown S 0)) from by rw [F_M_majority, if_pos c_10, if_pos c_18]] at hq; exact hq)
    · refine z_aload_n C 22 d_M_majority_21 rfl rfl ?_
      refine z_iload_n C 23 d_M_majority_22 rfl rfl ?_
      refine z_goA C (z_V C kc_M_93 (c_M_wins G l a (uM_thrown S 0) x1 (zr_isPart c_18 hp)) (st := []) 0 3 rfl rfl rfl rfl (Nat.le_of_ble_eq_true rfl) ⟨⟨Nat.le_of_ble_eq_true rfl, Nat.le_of_ble_eq_true rfl⟩, Nat.le_of_ble_eq_true rfl, Nat.le_of_ble_eq_true rfl⟩ d_M_majority_23) [.int (F_M_wins (uM_thrown S 0) x1)] 26 rfl rfl ?_
      refine z_goto C 30 d_M_majority_26 (by decide) ?_
      exact z_iret C hlk hr d_M_majority_30 (by rw [show F_M_majority S x1 = ((F_M_wins (uM_thrown S 0) x1), (uM_thrown S 0)) from by rw [F_M_majority, if_pos c_10, if_neg c_18]] at hq; exact hq)

def F_M_lastDay (S : SM) (x1 : Int32) : Int32 :=
  (((sM_values S) (Int32.toNatClampNeg (3 * x1))) + (((sM_values S) (Int32.toNatClampNeg ((3 * x1) + 1))) * (((sM_values S) (Int32.toNatClampNeg ((3 * x1) + 2))) - 1)))
set_option maxRecDepth 100000 in
set_option maxHeartbeats 4000000 in
theorem c_M_lastDay (G : zG) (l : Launch) (a : Nat → Nat) (S : SM) (x1 : Int32) (hf : zr x1 0 20) : zM G l y_M_lastDay b_M_lastDay 2 (some .int) (zR 0 0) [.ref (a 0), .int x1] (wM G a S) (fun r1 w1 => r1 = some (.int (F_M_lastDay S x1)) ∧ w1 = wM G a S) := by
  generalize hPost : (fun (r1 : Option Value) (w1 : va_W) => r1 = some (.int (F_M_lastDay S x1)) ∧ w1 = wM G a S) = Post
  have hq : Post (some (.int (F_M_lastDay S x1))) (wM G a S) := by rw [← hPost]; exact ⟨rfl, rfl⟩
  clear hPost
  refine zM_of (by decide) (Nat.le_of_ble_eq_true rfl) ?_
  intro p e s m args below meth c C hlk hr hin
  refine z_aload_n C 1 d_M_lastDay_0 rfl rfl ?_
  refine z_get C kf_M_13 0 (v := .ref (a 1)) 4 d_M_lastDay_1 rfl rfl rfl ?_
  refine z_iconst C 3 5 d_M_lastDay_4 rfl (by decide) ?_
  refine z_iload_n C 6 d_M_lastDay_5 rfl rfl ?_
  refine z_imul C 7 d_M_lastDay_6 rfl ?_
  refine z_iald C 1 0 (f := (sM_values S)) 8 d_M_lastDay_7 rfl rfl rfl (zr_in (zr_mul (zr_k 3 rfl) hf) (by decide) (by decide)) ?_
  refine z_aload_n C 9 d_M_lastDay_8 rfl rfl ?_
  refine z_get C kf_M_13 0 (v := .ref (a 1)) 12 d_M_lastDay_9 rfl rfl rfl ?_
  refine z_iconst C 3 13 d_M_lastDay_12 rfl (by decide) ?_
  refine z_iload_n C 14 d_M_lastDay_13 rfl rfl ?_
  refine z_imul C 15 d_M_lastDay_14 rfl ?_
  refine z_iconst C 1 16 d_M_lastDay_15 rfl (by decide) ?_
  refine z_iadd C 17 d_M_lastDay_16 rfl ?_
  refine z_iald C 1 0 (f := (sM_values S)) 18 d_M_lastDay_17 rfl rfl rfl (zr_in (zr_add (zr_mul (zr_k 3 rfl) hf) (zr_k 1 rfl)) (by decide) (by decide)) ?_
  refine z_aload_n C 19 d_M_lastDay_18 rfl rfl ?_
  refine z_get C kf_M_13 0 (v := .ref (a 1)) 22 d_M_lastDay_19 rfl rfl rfl ?_
  refine z_iconst C 3 23 d_M_lastDay_22 rfl (by decide) ?_
  refine z_iload_n C 24 d_M_lastDay_23 rfl rfl ?_
  refine z_imul C 25 d_M_lastDay_24 rfl ?_
  refine z_iconst C 2 26 d_M_lastDay_25 rfl (by decide) ?_
  refine z_iadd C 27 d_M_lastDay_26 rfl ?_
  refine z_iald C 1 0 (f := (sM_values S)) 28 d_M_lastDay_27 rfl rfl rfl (zr_in (zr_add (zr_mul (zr_k 3 rfl) hf) (zr_k 2 rfl)) (by decide) (by decide)) ?_
  refine z_iconst C 1 29 d_M_lastDay_28 rfl (by decide) ?_
  refine z_isub C 30 d_M_lastDay_29 rfl ?_
  refine z_imul C 31 d_M_lastDay_30 rfl ?_
  refine z_iadd C 32 d_M_lastDay_31 rfl ?_
  exact z_iret C hlk hr d_M_lastDay_32 (by rw [show F_M_lastDay S x1 = (((sM_values S) (Int32.toNatClampNeg (3 * x1))) + (((sM_values S) (Int32.toNatClampNeg ((3 * x1) + 1))) * (((sM_values S) (Int32.toNatClampNeg ((3 * x1) + 2))) - 1))) from by rw [F_M_lastDay]] at hq; exact hq)

def F_M_ends (S : SM) (x1 : Int32) : Int32 × SM :=
  if (sM_kind S) = 2 then
    if (F_M_isPart (uM_thrown S 0) x1) = 0 then
      (0, (uM_thrown S 0))
    else
      if 1500 < (F_M_lastDay (uM_thrown S 0) x1) then
        (0, (uM_thrown S 0))
      else
        (1, (uM_thrown S 0))
  else
    (0, (uM_thrown S 0))
set_option maxRecDepth 100000 in
set_option maxHeartbeats 4000000 in
theorem c_M_ends (G : zG) (l : Launch) (a : Nat → Nat) (S : SM) (x1 : Int32) (hp : zr (sM_parts S) 0 21) : zM G l y_M_ends b_M_ends 2 (some .boolean) (zR 2 43) [.ref (a 0), .int x1] (wM G a S) (fun r1 w1 => r1 = some (.int (F_M_ends S x1).1) ∧ w1 = wM G a (F_M_ends S x1).2) := by
  generalize hPost : (fun (r1 : Option Value) (w1 : va_W) => r1 = some (.int (F_M_ends S x1).1) ∧ w1 = wM G a (F_M_ends S x1).2) = Post
  have hq : Post (some (.int (F_M_ends S x1).1)) (wM G a (F_M_ends S x1).2) := by rw [← hPost]; exact ⟨rfl, rfl⟩
  clear hPost
  refine zM_of (by decide) (Nat.le_of_ble_eq_true rfl) ?_
  intro p e s m args below meth c C hlk hr hin
  refine z_aload_n C 1 d_M_ends_0 rfl rfl ?_
  refine z_iconst C 0 2 d_M_ends_1 rfl (by decide) ?_
  refine z_put C kf_M_28 kp_M 0 (wM G a (uM_thrown S 0)) 5 d_M_ends_2 rfl rfl rfl (znr_i _) (zft_i _) (Nat.le_of_ble_eq_true rfl) (wM_put_thrown G a S 0) ?_
  refine z_aload_n C 6 d_M_ends_5 rfl rfl ?_
  refine z_get C kf_M_9 0 (v := .int (sM_kind S)) 9 d_M_ends_6 rfl rfl rfl ?_
  refine z_iconst C 2 10 d_M_ends_9 rfl (by decide) ?_
  refine z_icmp_ne C 36 13 d_M_ends_10 (by decide) rfl (fun c_10 => ?_) (fun c_10 => ?_)
  · refine z_iconst C 0 37 d_M_ends_36 rfl (by decide) ?_
    exact z_zret C hlk rfl hr d_M_ends_37 (by rw [show F_M_ends S x1 = (0, (uM_thrown S 0)) from by rw [F_M_ends, if_neg c_10]] at hq; exact hq)
  · refine z_aload_n C 14 d_M_ends_13 rfl rfl ?_
    refine z_iload_n C 15 d_M_ends_14 rfl rfl ?_
    refine z_goA C (z_V C kc_M_89 (c_M_isPart G l a (uM_thrown S 0) x1) (st := []) 0 3 rfl rfl rfl rfl (Nat.le_of_ble_eq_true rfl) ⟨⟨Nat.le_of_ble_eq_true rfl, Nat.le_of_ble_eq_true rfl⟩, Nat.le_of_ble_eq_true rfl, Nat.le_of_ble_eq_true rfl⟩ d_M_ends_15) [.int (F_M_isPart (uM_thrown S 0) x1)] 18 rfl rfl ?_
    refine z_if_eq C 36 21 d_M_ends_18 (by decide) rfl (fun c_18 => ?_) (fun c_18 => ?_)
    · refine z_iconst C 0 37 d_M_ends_36 rfl (by decide) ?_
      exact z_zret C hlk rfl hr d_M_ends_37 (by rw [show F_M_ends S x1 = (0, (uM_thrown S 0)) from by rw [F_M_ends, if_pos c_10, if_pos c_18]] at hq; exact hq)
    · refine z_aload_n C 22 d_M_ends_21 rfl rfl ?_
      refine z_iload_n C 23 d_M_ends_22 rfl rfl ?_
      refine z_goA C (z_V C kc_M_96 (c_M_lastDay G l a (uM_thrown S 0) x1 (zr_isPart c_18 hp)) (st := []) 0 3 rfl rfl rfl rfl (Nat.le_of_ble_eq_true rfl) ⟨⟨Nat.le_of_ble_eq_true rfl, Nat.le_of_ble_eq_true rfl⟩, Nat.le_of_ble_eq_true rfl, Nat.le_of_ble_eq_true rfl⟩ d_M_ends_23) [.int (F_M_lastDay (uM_thrown S 0) x1)] 26 rfl rfl ?_
      refine z_sipush C 1500 29 d_M_ends_26 rfl (by decide) ?_
      refine z_icmp_gt C 36 32 d_M_ends_29 (by decide) rfl (fun c_29 => ?_) (fun c_29 => ?_)
      · refine z_iconst C 0 37 d_M_ends_36 rfl (by decide) ?_
        exact z_zret C hlk rfl hr d_M_ends_37 (by rw [show F_M_ends S x1 = (0, (uM_thrown S 0)) from by rw [F_M_ends, if_pos c_10, if_neg c_18, if_pos c_29]] at hq; exact hq)
      · refine z_iconst C 1 33 d_M_ends_32 rfl (by decide) ?_
        refine z_goto C 37 d_M_ends_33 (by decide) ?_
        exact z_zret C hlk rfl hr d_M_ends_37 (by rw [show F_M_ends S x1 = (1, (uM_thrown S 0)) from by rw [F_M_ends, if_pos c_10, if_neg c_18, if_neg c_29]] at hq; exact hq)

def F_M_isPlanted (S : SM) (x1 : Int32) (x2 : Int32) : Int32 :=
  if x2 = 0 then
    if (sM_kind S) = 0 then
      if ((sM_values S) (Int32.toNatClampNeg (3 * x1))) = 0 then
        1
      else
        0
    else
      0
  else
    if x2 = 1 then
      if (sM_kind S) = 0 then
        if ((sM_values S) (Int32.toNatClampNeg ((3 * x1) + 1))) = 0 then
          1
        else
          0
      else
        0
    else
      if x2 = 2 then
        if (sM_kind S) = 0 then
          if ((sM_values S) (Int32.toNatClampNeg ((3 * x1) + 2))) < 0 then
            0
          else
            1
        else
          0
      else
        if x2 = 3 then
          if (sM_kind S) = 1 then
            if 0 ≤ (F_M_wins S x1) then
              0
            else
              1
          else
            0
        else
          if x2 = 4 then
            if (sM_kind S) = 2 then
              if (F_M_lastDay S x1) = 1500 then
                1
              else
                0
            else
              0
          else
            if x2 = 5 then
              if (sM_kind S) = 3 then
                if ((sM_values S) (Int32.toNatClampNeg ((3 * x1) + 2))) ≤ 0 then
                  0
                else
                  1
              else
                0
            else
              if x2 = 6 then
                if (sM_kind S) = 4 then
                  if ((sM_values S) (Int32.toNatClampNeg ((3 * x1) + 1))) < 0 then
                    0
                  else
                    1
                else
                  0
              else
                if (sM_kind S) = 5 then
                  if x1 = 0 then
                    if ((sM_values S) (Int32.toNatClampNeg ((3 * x1) + 2))) = 0 then
                      1
                    else
                      0
                  else
                    if ((sM_values S) (Int32.toNatClampNeg ((3 * x1) + 2))) = ((sM_values S) (Int32.toNatClampNeg ((3 * x1) - 1))) then
                      1
                    else
                      0
                else
                  0
set_option maxRecDepth 100000 in
set_option maxHeartbeats 4000000 in
theorem c_M_isPlanted (G : zG) (l : Launch) (a : Nat → Nat) (S : SM) (x1 : Int32) (x2 : Int32) (hf : zr x1 0 20) : zM G l y_M_isPlanted b_M_isPlanted 3 (some .boolean) (zR 1 25) [.ref (a 0), .int x1, .int x2] (wM G a S) (fun r1 w1 => r1 = some (.int (F_M_isPlanted S x1 x2)) ∧ w1 = wM G a S) := by
  generalize hPost : (fun (r1 : Option Value) (w1 : va_W) => r1 = some (.int (F_M_isPlanted S x1 x2)) ∧ w1 = wM G a S) = Post
  have hq : Post (some (.int (F_M_isPlanted S x1 x2))) (wM G a S) := by rw [← hPost]; exact ⟨rfl, rfl⟩
  clear hPost
  refine zM_of (by decide) (Nat.le_of_ble_eq_true rfl) ?_
  intro p e s m args below meth c C hlk hr hin
  refine z_iload_n C 1 d_M_isPlanted_0 rfl rfl ?_
  by_cases c_1_0 : x2 = 0
  · refine z_tableIn C 44 d_M_isPlanted_1 (by rw [c_1_0]; decide) (by rw [c_1_0]; decide) (by rw [c_1_0]; rfl) (by decide) ?_
    refine z_aload_n C 45 d_M_isPlanted_44 rfl rfl ?_
    refine z_get C kf_M_9 0 (v := .int (sM_kind S)) 48 d_M_isPlanted_45 rfl rfl rfl ?_
    refine z_if_ne C 66 51 d_M_isPlanted_48 (by decide) rfl (fun c_48 => ?_) (fun c_48 => ?_)
    · refine z_iconst C 0 67 d_M_isPlanted_66 rfl (by decide) ?_
      exact z_zret C hlk rfl hr d_M_isPlanted_67 (by rw [show F_M_isPlanted S x1 x2 = 0 from by rw [F_M_isPlanted, if_pos c_1_0, if_neg c_48]] at hq; exact hq)
    · refine z_aload_n C 52 d_M_isPlanted_51 rfl rfl ?_
      refine z_get C kf_M_13 0 (v := .ref (a 1)) 55 d_M_isPlanted_52 rfl rfl rfl ?_
      refine z_iconst C 3 56 d_M_isPlanted_55 rfl (by decide) ?_
      refine z_iload_n C 57 d_M_isPlanted_56 rfl rfl ?_
      refine z_imul C 58 d_M_isPlanted_57 rfl ?_
      refine z_iald C 1 0 (f := (sM_values S)) 59 d_M_isPlanted_58 rfl rfl rfl (zr_in (zr_mul (zr_k 3 rfl) hf) (by decide) (by decide)) ?_
      refine z_if_ne C 66 62 d_M_isPlanted_59 (by decide) rfl (fun c_59 => ?_) (fun c_59 => ?_)
      · refine z_iconst C 0 67 d_M_isPlanted_66 rfl (by decide) ?_
        exact z_zret C hlk rfl hr d_M_isPlanted_67 (by rw [show F_M_isPlanted S x1 x2 = 0 from by rw [F_M_isPlanted, if_pos c_1_0, if_pos c_48, if_neg c_59]] at hq; exact hq)
      · refine z_iconst C 1 63 d_M_isPlanted_62 rfl (by decide) ?_
        refine z_goto C 67 d_M_isPlanted_63 (by decide) ?_
        exact z_zret C hlk rfl hr d_M_isPlanted_67 (by rw [show F_M_isPlanted S x1 x2 = 1 from by rw [F_M_isPlanted, if_pos c_1_0, if_pos c_48, if_pos c_59]] at hq; exact hq)
  by_cases c_1_1 : x2 = 1
  · refine z_tableIn C 68 d_M_isPlanted_1 (by rw [c_1_1]; decide) (by rw [c_1_1]; decide) (by rw [c_1_1]; rfl) (by decide) ?_
    refine z_aload_n C 69 d_M_isPlanted_68 rfl rfl ?_
    refine z_get C kf_M_9 0 (v := .int (sM_kind S)) 72 d_M_isPlanted_69 rfl rfl rfl ?_
    refine z_if_ne C 92 75 d_M_isPlanted_72 (by decide) rfl (fun c_72 => ?_) (fun c_72 => ?_)
    · refine z_iconst C 0 93 d_M_isPlanted_92 rfl (by decide) ?_
      exact z_zret C hlk rfl hr d_M_isPlanted_93 (by rw [show F_M_isPlanted S x1 x2 = 0 from by rw [F_M_isPlanted, if_neg c_1_0, if_pos c_1_1, if_neg c_72]] at hq; exact hq)
    · refine z_aload_n C 76 d_M_isPlanted_75 rfl rfl ?_
      refine z_get C kf_M_13 0 (v := .ref (a 1)) 79 d_M_isPlanted_76 rfl rfl rfl ?_
      refine z_iconst C 3 80 d_M_isPlanted_79 rfl (by decide) ?_
      refine z_iload_n C 81 d_M_isPlanted_80 rfl rfl ?_
      refine z_imul C 82 d_M_isPlanted_81 rfl ?_
      refine z_iconst C 1 83 d_M_isPlanted_82 rfl (by decide) ?_
      refine z_iadd C 84 d_M_isPlanted_83 rfl ?_
      refine z_iald C 1 0 (f := (sM_values S)) 85 d_M_isPlanted_84 rfl rfl rfl (zr_in (zr_add (zr_mul (zr_k 3 rfl) hf) (zr_k 1 rfl)) (by decide) (by decide)) ?_
      refine z_if_ne C 92 88 d_M_isPlanted_85 (by decide) rfl (fun c_85 => ?_) (fun c_85 => ?_)
      · refine z_iconst C 0 93 d_M_isPlanted_92 rfl (by decide) ?_
        exact z_zret C hlk rfl hr d_M_isPlanted_93 (by rw [show F_M_isPlanted S x1 x2 = 0 from by rw [F_M_isPlanted, if_neg c_1_0, if_pos c_1_1, if_pos c_72, if_neg c_85]] at hq; exact hq)
      · refine z_iconst C 1 89 d_M_isPlanted_88 rfl (by decide) ?_
        refine z_goto C 93 d_M_isPlanted_89 (by decide) ?_
        exact z_zret C hlk rfl hr d_M_isPlanted_93 (by rw [show F_M_isPlanted S x1 x2 = 1 from by rw [F_M_isPlanted, if_neg c_1_0, if_pos c_1_1, if_pos c_72, if_pos c_85]] at hq; exact hq)
  by_cases c_1_2 : x2 = 2
  · refine z_tableIn C 94 d_M_isPlanted_1 (by rw [c_1_2]; decide) (by rw [c_1_2]; decide) (by rw [c_1_2]; rfl) (by decide) ?_
    refine z_aload_n C 95 d_M_isPlanted_94 rfl rfl ?_
    refine z_get C kf_M_9 0 (v := .int (sM_kind S)) 98 d_M_isPlanted_95 rfl rfl rfl ?_
    refine z_if_ne C 118 101 d_M_isPlanted_98 (by decide) rfl (fun c_98 => ?_) (fun c_98 => ?_)
    · refine z_iconst C 0 119 d_M_isPlanted_118 rfl (by decide) ?_
      exact z_zret C hlk rfl hr d_M_isPlanted_119 (by rw [show F_M_isPlanted S x1 x2 = 0 from by rw [F_M_isPlanted, if_neg c_1_0, if_neg c_1_1, if_pos c_1_2, if_neg c_98]] at hq; exact hq)
    · refine z_aload_n C 102 d_M_isPlanted_101 rfl rfl ?_
      refine z_get C kf_M_13 0 (v := .ref (a 1)) 105 d_M_isPlanted_102 rfl rfl rfl ?_
      refine z_iconst C 3 106 d_M_isPlanted_105 rfl (by decide) ?_
      refine z_iload_n C 107 d_M_isPlanted_106 rfl rfl ?_
      refine z_imul C 108 d_M_isPlanted_107 rfl ?_
      refine z_iconst C 2 109 d_M_isPlanted_108 rfl (by decide) ?_
      refine z_iadd C 110 d_M_isPlanted_109 rfl ?_
      refine z_iald C 1 0 (f := (sM_values S)) 111 d_M_isPlanted_110 rfl rfl rfl (zr_in (zr_add (zr_mul (zr_k 3 rfl) hf) (zr_k 2 rfl)) (by decide) (by decide)) ?_
      refine z_if_lt C 118 114 d_M_isPlanted_111 (by decide) rfl (fun c_111 => ?_) (fun c_111 => ?_)
      · refine z_iconst C 0 119 d_M_isPlanted_118 rfl (by decide) ?_
        exact z_zret C hlk rfl hr d_M_isPlanted_119 (by rw [show F_M_isPlanted S x1 x2 = 0 from by rw [F_M_isPlanted, if_neg c_1_0, if_neg c_1_1, if_pos c_1_2, if_pos c_98, if_pos c_111]] at hq; exact hq)
      · refine z_iconst C 1 115 d_M_isPlanted_114 rfl (by decide) ?_
        refine z_goto C 119 d_M_isPlanted_115 (by decide) ?_
        exact z_zret C hlk rfl hr d_M_isPlanted_119 (by rw [show F_M_isPlanted S x1 x2 = 1 from by rw [F_M_isPlanted, if_neg c_1_0, if_neg c_1_1, if_pos c_1_2, if_pos c_98, if_neg c_111]] at hq; exact hq)
  by_cases c_1_3 : x2 = 3
  · refine z_tableIn C 120 d_M_isPlanted_1 (by rw [c_1_3]; decide) (by rw [c_1_3]; decide) (by rw [c_1_3]; rfl) (by decide) ?_
    refine z_aload_n C 121 d_M_isPlanted_120 rfl rfl ?_
    refine z_get C kf_M_9 0 (v := .int (sM_kind S)) 124 d_M_isPlanted_121 rfl rfl rfl ?_
    refine z_iconst C 1 125 d_M_isPlanted_124 rfl (by decide) ?_
    refine z_icmp_ne C 140 128 d_M_isPlanted_125 (by decide) rfl (fun c_125 => ?_) (fun c_125 => ?_)
    · refine z_iconst C 0 141 d_M_isPlanted_140 rfl (by decide) ?_
      exact z_zret C hlk rfl hr d_M_isPlanted_141 (by rw [show F_M_isPlanted S x1 x2 = 0 from by rw [F_M_isPlanted, if_neg c_1_0, if_neg c_1_1, if_neg c_1_2, if_pos c_1_3, if_neg c_125]] at hq; exact hq)
    · refine z_aload_n C 129 d_M_isPlanted_128 rfl rfl ?_
      refine z_iload_n C 130 d_M_isPlanted_129 rfl rfl ?_
      refine z_goA C (z_V C kc_M_93 (c_M_wins G l a S x1 hf) (st := []) 0 3 rfl rfl rfl rfl (Nat.le_of_ble_eq_true rfl) ⟨⟨Nat.le_of_ble_eq_true rfl, Nat.le_of_ble_eq_true rfl⟩, Nat.le_of_ble_eq_true rfl, Nat.le_of_ble_eq_true rfl⟩ d_M_isPlanted_130) [.int (F_M_wins S x1)] 133 rfl rfl ?_
      refine z_if_ge C 140 136 d_M_isPlanted_133 (by decide) rfl (fun c_133 => ?_) (fun c_133 => ?_)
      · refine z_iconst C 0 141 d_M_isPlanted_140 rfl (by decide) ?_
        exact z_zret C hlk rfl hr d_M_isPlanted_141 (by rw [show F_M_isPlanted S x1 x2 = 0 from by rw [F_M_isPlanted, if_neg c_1_0, if_neg c_1_1, if_neg c_1_2, if_pos c_1_3, if_pos c_125, if_pos c_133]] at hq; exact hq)
      · refine z_iconst C 1 137 d_M_isPlanted_136 rfl (by decide) ?_
        refine z_goto C 141 d_M_isPlanted_137 (by decide) ?_
        exact z_zret C hlk rfl hr d_M_isPlanted_141 (by rw [show F_M_isPlanted S x1 x2 = 1 from by rw [F_M_isPlanted, if_neg c_1_0, if_neg c_1_1, if_neg c_1_2, if_pos c_1_3, if_pos c_125, if_neg c_133]] at hq; exact hq)
  by_cases c_1_4 : x2 = 4
  · refine z_tableIn C 142 d_M_isPlanted_1 (by rw [c_1_4]; decide) (by rw [c_1_4]; decide) (by rw [c_1_4]; rfl) (by decide) ?_
    refine z_aload_n C 143 d_M_isPlanted_142 rfl rfl ?_
    refine z_get C kf_M_9 0 (v := .int (sM_kind S)) 146 d_M_isPlanted_143 rfl rfl rfl ?_
    refine z_iconst C 2 147 d_M_isPlanted_146 rfl (by decide) ?_
    refine z_icmp_ne C 165 150 d_M_isPlanted_147 (by decide) rfl (fun c_147 => ?_) (fun c_147 => ?_)
    · refine z_iconst C 0 166 d_M_isPlanted_165 rfl (by decide) ?_
      exact z_zret C hlk rfl hr d_M_isPlanted_166 (by rw [show F_M_isPlanted S x1 x2 = 0 from by rw [F_M_isPlanted, if_neg c_1_0, if_neg c_1_1, if_neg c_1_2, if_neg c_1_3, if_pos c_1_4, if_neg c_147]] at hq; exact hq)
    · refine z_aload_n C 151 d_M_isPlanted_150 rfl rfl ?_
      refine z_iload_n C 152 d_M_isPlanted_151 rfl rfl ?_
      refine z_goA C (z_V C kc_M_96 (c_M_lastDay G l a S x1 hf) (st := []) 0 3 rfl rfl rfl rfl (Nat.le_of_ble_eq_true rfl) ⟨⟨Nat.le_of_ble_eq_true rfl, Nat.le_of_ble_eq_true rfl⟩, Nat.le_of_ble_eq_true rfl, Nat.le_of_ble_eq_true rfl⟩ d_M_isPlanted_152) [.int (F_M_lastDay S x1)] 155 rfl rfl ?_
      refine z_sipush C 1500 158 d_M_isPlanted_155 rfl (by decide) ?_
      refine z_icmp_ne C 165 161 d_M_isPlanted_158 (by decide) rfl (fun c_158 => ?_) (fun c_158 => ?_)
      · refine z_iconst C 0 166 d_M_isPlanted_165 rfl (by decide) ?_
        exact z_zret C hlk rfl hr d_M_isPlanted_166 (by rw [show F_M_isPlanted S x1 x2 = 0 from by rw [F_M_isPlanted, if_neg c_1_0, if_neg c_1_1, if_neg c_1_2, if_neg c_1_3, if_pos c_1_4, if_pos c_147, if_neg c_158]] at hq; exact hq)
      · refine z_iconst C 1 162 d_M_isPlanted_161 rfl (by decide) ?_
        refine z_goto C 166 d_M_isPlanted_162 (by decide) ?_
        exact z_zret C hlk rfl hr d_M_isPlanted_166 (by rw [show F_M_isPlanted S x1 x2 = 1 from by rw [F_M_isPlanted, if_neg c_1_0, if_neg c_1_1, if_neg c_1_2, if_neg c_1_3, if_pos c_1_4, if_pos c_147, if_pos c_158]] at hq; exact hq)
  by_cases c_1_5 : x2 = 5
  · refine z_tableIn C 167 d_M_isPlanted_1 (by rw [c_1_5]; decide) (by rw [c_1_5]; decide) (by rw [c_1_5]; rfl) (by decide) ?_
    refine z_aload_n C 168 d_M_isPlanted_167 rfl rfl ?_
    refine z_get C kf_M_9 0 (v := .int (sM_kind S)) 171 d_M_isPlanted_168 rfl rfl rfl ?_
    refine z_iconst C 3 172 d_M_isPlanted_171 rfl (by decide) ?_
    refine z_icmp_ne C 192 175 d_M_isPlanted_172 (by decide) rfl (fun c_172 => ?_) (fun c_172 => ?_)
    · refine z_iconst C 0 193 d_M_isPlanted_192 rfl (by decide) ?_
      exact z_zret C hlk rfl hr d_M_isPlanted_193 (by rw [show F_M_isPlanted S x1 x2 = 0 from by rw [F_M_isPlanted, if_neg c_1_0, if_neg c_1_1, if_neg c_1_2, if_neg c_1_3, if_neg c_1_4, if_pos c_1_5, if_neg c_172]] at hq; exact hq)
    · refine z_aload_n C 176 d_M_isPlanted_175 rfl rfl ?_
      refine z_get C kf_M_13 0 (v := .ref (a 1)) 179 d_M_isPlanted_176 rfl rfl rfl ?_
      refine z_iconst C 3 180 d_M_isPlanted_179 rfl (by decide) ?_
      refine z_iload_n C 181 d_M_isPlanted_180 rfl rfl ?_
      refine z_imul C 182 d_M_isPlanted_181 rfl ?_
      refine z_iconst C 2 183 d_M_isPlanted_182 rfl (by decide) ?_
      refine z_iadd C 184 d_M_isPlanted_183 rfl ?_
      refine z_iald C 1 0 (f := (sM_values S)) 185 d_M_isPlanted_184 rfl rfl rfl (zr_in (zr_add (zr_mul (zr_k 3 rfl) hf) (zr_k 2 rfl)) (by decide) (by decide)) ?_
      refine z_if_le C 192 188 d_M_isPlanted_185 (by decide) rfl (fun c_185 => ?_) (fun c_185 => ?_)
      · refine z_iconst C 0 193 d_M_isPlanted_192 rfl (by decide) ?_
        exact z_zret C hlk rfl hr d_M_isPlanted_193 (by rw [show F_M_isPlanted S x1 x2 = 0 from by rw [F_M_isPlanted, if_neg c_1_0, if_neg c_1_1, if_neg c_1_2, if_neg c_1_3, if_neg c_1_4, if_pos c_1_5, if_pos c_172, if_pos c_185]] at hq; exact hq)
      · refine z_iconst C 1 189 d_M_isPlanted_188 rfl (by decide) ?_
        refine z_goto C 193 d_M_isPlanted_189 (by decide) ?_
        exact z_zret C hlk rfl hr d_M_isPlanted_193 (by rw [show F_M_isPlanted S x1 x2 = 1 from by rw [F_M_isPlanted, if_neg c_1_0, if_neg c_1_1, if_neg c_1_2, if_neg c_1_3, if_neg c_1_4, if_pos c_1_5, if_pos c_172, if_neg c_185]] at hq; exact hq)
  by_cases c_1_6 : x2 = 6
  · refine z_tableIn C 194 d_M_isPlanted_1 (by rw [c_1_6]; decide) (by rw [c_1_6]; decide) (by rw [c_1_6]; rfl) (by decide) ?_
    refine z_aload_n C 195 d_M_isPlanted_194 rfl rfl ?_
    refine z_get C kf_M_9 0 (v := .int (sM_kind S)) 198 d_M_isPlanted_195 rfl rfl rfl ?_
    refine z_iconst C 4 199 d_M_isPlanted_198 rfl (by decide) ?_
    refine z_icmp_ne C 219 202 d_M_isPlanted_199 (by decide) rfl (fun c_199 => ?_) (fun c_199 => ?_)
    · refine z_iconst C 0 220 d_M_isPlanted_219 rfl (by decide) ?_
      exact z_zret C hlk rfl hr d_M_isPlanted_220 (by rw [show F_M_isPlanted S x1 x2 = 0 from by rw [F_M_isPlanted, if_neg c_1_0, if_neg c_1_1, if_neg c_1_2, if_neg c_1_3, if_neg c_1_4, if_neg c_1_5, if_pos c_1_6, if_neg c_199]] at hq; exact hq)
    · refine z_aload_n C 203 d_M_isPlanted_202 rfl rfl ?_
      refine z_get C kf_M_13 0 (v := .ref (a 1)) 206 d_M_isPlanted_203 rfl rfl rfl ?_
      refine z_iconst C 3 207 d_M_isPlanted_206 rfl (by decide) ?_
      refine z_iload_n C 208 d_M_isPlanted_207 rfl rfl ?_
      refine z_imul C 209 d_M_isPlanted_208 rfl ?_
      refine z_iconst C 1 210 d_M_isPlanted_209 rfl (by decide) ?_
      refine z_iadd C 211 d_M_isPlanted_210 rfl ?_
      refine z_iald C 1 0 (f := (sM_values S)) 212 d_M_isPlanted_211 rfl rfl rfl (zr_in (zr_add (zr_mul (zr_k 3 rfl) hf) (zr_k 1 rfl)) (by decide) (by decide)) ?_
      refine z_if_lt C 219 215 d_M_isPlanted_212 (by decide) rfl (fun c_212 => ?_) (fun c_212 => ?_)
      · refine z_iconst C 0 220 d_M_isPlanted_219 rfl (by decide) ?_
        exact z_zret C hlk rfl hr d_M_isPlanted_220 (by rw [show F_M_isPlanted S x1 x2 = 0 from by rw [F_M_isPlanted, if_neg c_1_0, if_neg c_1_1, if_neg c_1_2, if_neg c_1_3, if_neg c_1_4, if_neg c_1_5, if_pos c_1_6, if_pos c_199, if_pos c_212]] at hq; exact hq)
      · refine z_iconst C 1 216 d_M_isPlanted_215 rfl (by decide) ?_
        refine z_goto C 220 d_M_isPlanted_216 (by decide) ?_
        exact z_zret C hlk rfl hr d_M_isPlanted_220 (by rw [show F_M_isPlanted S x1 x2 = 1 from by rw [F_M_isPlanted, if_neg c_1_0, if_neg c_1_1, if_neg c_1_2, if_neg c_1_3, if_neg c_1_4, if_neg c_1_5, if_pos c_1_6, if_pos c_199, if_neg c_212]] at hq; exact hq)
  refine z_tableOut C 221 d_M_isPlanted_1 (by have q0 := lv_neT c_1_0 (a := 0) (by decide); have q1 := lv_neT c_1_1 (a := 1) (by decide); have q2 := lv_neT c_1_2 (a := 2) (by decide); have q3 := lv_neT c_1_3 (a := 3) (by decide); have q4 := lv_neT c_1_4 (a := 4) (by decide); have q5 := lv_neT c_1_5 (a := 5) (by decide); have q6 := lv_neT c_1_6 (a := 6) (by decide); omega) (by decide) ?_
  refine z_aload_n C 222 d_M_isPlanted_221 rfl rfl ?_
  refine z_get C kf_M_9 0 (v := .int (sM_kind S)) 225 d_M_isPlanted_222 rfl rfl rfl ?_
  refine z_iconst C 5 226 d_M_isPlanted_225 rfl (by decide) ?_
  refine z_icmp_ne C 264 229 d_M_isPlanted_226 (by decide) rfl (fun c_226 => ?_) (fun c_226 => ?_)
  · refine z_iconst C 0 265 d_M_isPlanted_264 rfl (by decide) ?_
    exact z_zret C hlk rfl hr d_M_isPlanted_265 (by rw [show F_M_isPlanted S x1 x2 = 0 from by rw [F_M_isPlanted, if_neg c_1_0, if_neg c_1_1, if_neg c_1_2, if_neg c_1_3, if_neg c_1_4, if_neg c_1_5, if_neg c_1_6, if_neg c_226]] at hq; exact hq)
  · refine z_aload_n C 230 d_M_isPlanted_229 rfl rfl ?_
    refine z_get C kf_M_13 0 (v := .ref (a 1)) 233 d_M_isPlanted_230 rfl rfl rfl ?_
    refine z_iconst C 3 234 d_M_isPlanted_233 rfl (by decide) ?_
    refine z_iload_n C 235 d_M_isPlanted_234 rfl rfl ?_
    refine z_imul C 236 d_M_isPlanted_235 rfl ?_
    refine z_iconst C 2 237 d_M_isPlanted_236 rfl (by decide) ?_
    refine z_iadd C 238 d_M_isPlanted_237 rfl ?_
    refine z_iald C 1 0 (f := (sM_values S)) 239 d_M_isPlanted_238 rfl rfl rfl (zr_in (zr_add (zr_mul (zr_k 3 rfl) hf) (zr_k 2 rfl)) (by decide) (by decide)) ?_
    refine z_iload_n C 240 d_M_isPlanted_239 rfl rfl ?_
    refine z_if_ne C 247 243 d_M_isPlanted_240 (by decide) rfl (fun c_240 => ?_) (fun c_240 => ?_)
    · refine z_aload_n C 248 d_M_isPlanted_247 rfl rfl ?_
      refine z_get C kf_M_13 0 (v := .ref (a 1)) 251 d_M_isPlanted_248 rfl rfl rfl ?_
      refine z_iconst C 3 252 d_M_isPlanted_251 rfl (by decide) ?_
      refine z_iload_n C 253 d_M_isPlanted_252 rfl rfl ?_
      refine z_imul C 254 d_M_isPlanted_253 rfl ?_
      refine z_iconst C 1 255 d_M_isPlanted_254 rfl (by decide) ?_
      refine z_isub C 256 d_M_isPlanted_255 rfl ?_
      refine z_iald C 1 0 (f := (sM_values S)) 257 d_M_isPlanted_256 rfl rfl rfl (zr_in (zr_sub (zr_mul (zr_k 3 rfl) (zr_nz c_240 hf)) (zr_k 1 rfl) (by decide)) (by decide) (by decide)) ?_
      refine z_icmp_ne C 264 260 d_M_isPlanted_257 (by decide) rfl (fun c_257 => ?_) (fun c_257 => ?_)
      · refine z_iconst C 0 265 d_M_isPlanted_264 rfl (by decide) ?_
        exact z_zret C hlk rfl hr d_M_isPlanted_265 (by rw [show F_M_isPlanted S x1 x2 = 0 from by rw [F_M_isPlanted, if_neg c_1_0, if_neg c_1_1, if_neg c_1_2, if_neg c_1_3, if_neg c_1_4, if_neg c_1_5, if_neg c_1_6, if_pos c_226, if_neg c_240, if_neg c_257]] at hq; exact hq)
      · refine z_iconst C 1 261 d_M_isPlanted_260 rfl (by decide) ?_
        refine z_goto C 265 d_M_isPlanted_261 (by decide) ?_
        exact z_zret C hlk rfl hr d_M_isPlanted_265 (by rw [show F_M_isPlanted S x1 x2 = 1 from by rw [F_M_isPlanted, if_neg c_1_0, if_neg c_1_1, if_neg c_1_2, if_neg c_1_3, if_neg c_1_4, if_neg c_1_5, if_neg c_1_6, if_pos c_226, if_neg c_240, if_pos c_257]] at hq; exact hq)
    · refine z_iconst C 0 244 d_M_isPlanted_243 rfl (by decide) ?_
      refine z_goto C 257 d_M_isPlanted_244 (by decide) ?_
      refine z_icmp_ne C 264 260 d_M_isPlanted_257 (by decide) rfl (fun c_257 => ?_) (fun c_257 => ?_)
      · refine z_iconst C 0 265 d_M_isPlanted_264 rfl (by decide) ?_
        exact z_zret C hlk rfl hr d_M_isPlanted_265 (by rw [show F_M_isPlanted S x1 x2 = 0 from by rw [F_M_isPlanted, if_neg c_1_0, if_neg c_1_1, if_neg c_1_2, if_neg c_1_3, if_neg c_1_4, if_neg c_1_5, if_neg c_1_6, if_pos c_226, if_pos c_240, if_neg c_257]] at hq; exact hq)
      · refine z_iconst C 1 261 d_M_isPlanted_260 rfl (by decide) ?_
        refine z_goto C 265 d_M_isPlanted_261 (by decide) ?_
        exact z_zret C hlk rfl hr d_M_isPlanted_265 (by rw [show F_M_isPlanted S x1 x2 = 1 from by rw [F_M_isPlanted, if_neg c_1_0, if_neg c_1_1, if_neg c_1_2, if_neg c_1_3, if_neg c_1_4, if_neg c_1_5, if_neg c_1_6, if_pos c_226, if_pos c_240, if_pos c_257]] at hq; exact hq)

def L_M_planted_21 : Nat → SM → Int32 → Int32 → Int32 → Int32 × SM
  | 0, S, v1, v2, v3 => (0, S)
  | n + 1, S, v1, v2, v3 =>
    if (sM_parts S) ≤ v3 then
      (v2, S)
    else
      if (F_M_isPlanted S v3 v1) = 0 then
        (L_M_planted_21 n S v1 (v2 + 0) (v3 + 1))
      else
        (L_M_planted_21 n S v1 (v2 + 1) (v3 + 1))
set_option maxRecDepth 100000 in
set_option maxHeartbeats 4000000 in
theorem l_M_planted_21 (G : zG) (l : Launch) (a : Nat → Nat) {p : Program} {e : Env} {s : State} {m : MethodId} {args : Array Value} {below : List Frame} {meth : Method} {c : Code} {w0 : va_W} {Post : Option Value → va_W → Prop} (C : zC p s m args meth c b_M_planted 4 N_M G (va_A w0 s.heap.size)) (hlk : meth.locks = false) (hr : meth.sig.returnType = some .int) :
    ∀ (n : Nat) (S : SM) (v1 : Int32) (v2 : Int32) (v3 : Int32), (Int32.toInt (sM_parts S) - Int32.toInt v3).toNat < n → (zr (sM_parts S) 0 21 ∧ ¬ v3 < 0) → Post (some (.int (L_M_planted_21 n S v1 v2 v3).1)) (wM G a (L_M_planted_21 n S v1 v2 v3).2) → zV p l e (zR 2 47) s m args below meth c 4 G (va_A w0 s.heap.size) (MQ below (zQ G w0 s.heap.size Post) args s 0 0 (va_A w0 s.heap.size)) 0 0 (wM G a S) 21 [(0, .ref (a 0)), (1, .int v1), (2, .int v2), (3, .int v3)] [] := by
  intro n
  induction n with
  | zero => intro S v1 v2 v3 h; exact absurd h (Nat.not_lt_zero _)
  | succ n ih =>
    intro S v1 v2 v3 hmu hpre hq
    refine z_iload_n C 22 d_M_planted_21 rfl rfl ?_
    refine z_aload_n C 23 d_M_planted_22 rfl rfl ?_
    refine z_get C kf_M_65 0 (v := .int (sM_parts S)) 26 d_M_planted_23 rfl rfl rfl ?_
    refine z_icmp_ge C 52 29 d_M_planted_26 (by decide) rfl (fun c_26 => ?_) (fun c_26 => ?_)
    · refine z_iload_n C 53 d_M_planted_52 rfl rfl ?_
      exact z_iret C hlk hr d_M_planted_53 (by rw [show L_M_planted_21 (n + 1) S v1 v2 v3 = (v2, S) from by rw [L_M_planted_21, if_pos c_26]] at hq; exact hq)
    · refine z_iload_n C 30 d_M_planted_29 rfl rfl ?_
      refine z_aload_n C 31 d_M_planted_30 rfl rfl ?_
      refine z_iload_n C 32 d_M_planted_31 rfl rfl ?_
      refine z_iload_n C 33 d_M_planted_32 rfl rfl ?_
      refine z_goA C (z_V C kc_M_99 (c_M_isPlanted G l a S v3 v1 (zr_lt hpre.2 c_26 hpre.1 (by decide))) (st := [.int v2]) 0 3 rfl rfl rfl rfl (Nat.le_of_ble_eq_true rfl) ⟨⟨Nat.le_of_ble_eq_true rfl, Nat.le_of_ble_eq_true rfl⟩, Nat.le_of_ble_eq_true rfl, Nat.le_of_ble_eq_true rfl⟩ d_M_planted_33) [.int (F_M_isPlanted S v3 v1), .int v2] 36 rfl rfl ?_
      refine z_if_eq C 43 39 d_M_planted_36 (by decide) rfl (fun c_36 => ?_) (fun c_36 => ?_)
      · refine z_iconst C 0 44 d_M_planted_43 rfl (by decide) ?_
        refine z_iadd C 45 d_M_planted_44 rfl ?_
        refine z_istore_n C [(2, .int (v2 + 0)), (0, .ref (a 0)), (1, .int v1), (3, .int v3)] 46 d_M_planted_45 rfl (by decide) rfl ?_
        refine z_iinc C (v3 + 1) [(3, .int (v3 + 1)), (2, .int (v2 + 0)), (0, .ref (a 0)), (1, .int v1)] 49 d_M_planted_46 rfl (by decide) rfl rfl rfl ?_
        refine z_goto C 21 d_M_planted_49 (by decide) ?_
        refine z_lvs [2, 3, 1, 0] [(0, .ref (a 0)), (1, .int v1), (2, .int (v2 + 0)), (3, .int (v3 + 1))] rfl ?_
        exact ih S v1 (v2 + 0) (v3 + 1) (zdec c_26 hmu) ⟨hpre.1, zi_nn c_26 hpre.2⟩ (by rw [show L_M_planted_21 (n + 1) S v1 v2 v3 = (L_M_planted_21 n S v1 (v2 + 0) (v3 + 1)) from by rw [L_M_planted_21, if_neg c_26, if_pos c_36]] at hq; exact hq)
      · refine z_iconst C 1 40 d_M_planted_39 rfl (by decide) ?_
        refine z_goto C 44 d_M_planted_40 (by decide) ?_
        refine z_iadd C 45 d_M_planted_44 rfl ?_
        refine z_istore_n C [(2, .int (v2 + 1)), (0, .ref (a 0)), (1, .int v1), (3, .int v3)] 46 d_M_planted_45 rfl (by decide) rfl ?_
        refine z_iinc C (v3 + 1) [(3, .int (v3 + 1)), (2, .int (v2 + 1)), (0, .ref (a 0)), (1, .int v1)] 49 d_M_planted_46 rfl (by decide) rfl rfl rfl ?_
        refine z_goto C 21 d_M_planted_49 (by decide) ?_
        refine z_lvs [2, 3, 1, 0] [(0, .ref (a 0)), (1, .int v1), (2, .int (v2 + 1)), (3, .int (v3 + 1))] rfl ?_
        exact ih S v1 (v2 + 1) (v3 + 1) (zdec c_26 hmu) ⟨hpre.1, zi_nn c_26 hpre.2⟩ (by rw [show L_M_planted_21 (n + 1) S v1 v2 v3 = (L_M_planted_21 n S v1 (v2 + 1) (v3 + 1)) from by rw [L_M_planted_21, if_neg c_26, if_neg c_36]] at hq; exact hq)
def F_M_planted (S : SM) (x1 : Int32) : Int32 × SM :=
  if (F_M_in x1 0 7) = 0 then
    ((-1), (uM_thrown S 0))
  else
    (L_M_planted_21 ((Int32.toInt (sM_parts (uM_thrown S 0)) - Int32.toInt 0).toNat + 1) (uM_thrown S 0) x1 0 0)
set_option maxRecDepth 100000 in
set_option maxHeartbeats 4000000 in
theorem c_M_planted (G : zG) (l : Launch) (a : Nat → Nat) (S : SM) (x1 : Int32) (hp : zr (sM_parts S) 0 21) : zM G l y_M_planted b_M_planted 4 (some .int) (zR 2 47) [.ref (a 0), .int x1] (wM G a S) (fun r1 w1 => r1 = some (.int (F_M_planted S x1).1) ∧ w1 = wM G a (F_M_planted S x1).2) := by
  generalize hPost : (fun (r1 : Option Value) (w1 : va_W) => r1 = some (.int (F_M_planted S x1).1) ∧ w1 = wM G a (F_M_planted S x1).2) = Post
  have hq : Post (some (.int (F_M_planted S x1).1)) (wM G a (F_M_planted S x1).2) := by rw [← hPost]; exact ⟨rfl, rfl⟩
  clear hPost
  refine zM_of (by decide) (Nat.le_of_ble_eq_true rfl) ?_
  intro p e s m args below meth c C hlk hr hin
  refine z_aload_n C 1 d_M_planted_0 rfl rfl ?_
  refine z_iconst C 0 2 d_M_planted_1 rfl (by decide) ?_
  refine z_put C kf_M_28 kp_M 0 (wM G a (uM_thrown S 0)) 5 d_M_planted_2 rfl rfl rfl (znr_i _) (zft_i _) (Nat.le_of_ble_eq_true rfl) (wM_put_thrown G a S 0) ?_
  refine z_iload_n C 6 d_M_planted_5 rfl rfl ?_
  refine z_iconst C 0 7 d_M_planted_6 rfl (by decide) ?_
  refine z_bipush C 7 9 d_M_planted_7 rfl (by decide) ?_
  refine z_go0 C (z_S C kc_M_61 (c_M_in G l x1 0 7) (st := []) rfl rfl (Nat.le_of_ble_eq_true rfl) ⟨⟨Nat.le_of_ble_eq_true rfl, Nat.le_of_ble_eq_true rfl⟩, Nat.le_of_ble_eq_true rfl, Nat.le_of_ble_eq_true rfl⟩ d_M_planted_9) [0, 1, 2, 3] [.int (F_M_in x1 0 7)] 12 rfl rfl rfl rfl ?_
  refine z_if_ne C 17 15 d_M_planted_12 (by decide) rfl (fun c_12 => ?_) (fun c_12 => ?_)
  · refine z_iconst C 0 18 d_M_planted_17 rfl (by decide) ?_
    refine z_istore_n C [(2, .int 0), (0, .ref (a 0)), (1, .int x1)] 19 d_M_planted_18 rfl (by decide) rfl ?_
    refine z_iconst C 0 20 d_M_planted_19 rfl (by decide) ?_
    refine z_istore_n C [(3, .int 0), (2, .int 0), (0, .ref (a 0)), (1, .int x1)] 21 d_M_planted_20 rfl (by decide) rfl ?_
    refine z_lvs [2, 3, 1, 0] [(0, .ref (a 0)), (1, .int x1), (2, .int 0), (3, .int 0)] rfl ?_
    exact l_M_planted_21 G l a C hlk hr _ (uM_thrown S 0) x1 0 0 (Nat.lt_succ_self _) ⟨hp, by decide⟩ (by rw [show F_M_planted S x1 = (L_M_planted_21 ((Int32.toInt (sM_parts (uM_thrown S 0)) - Int32.toInt 0).toNat + 1) (uM_thrown S 0) x1 0 0) from by rw [F_M_planted, if_neg c_12]] at hq; exact hq)
  · refine z_iconst C (-1) 16 d_M_planted_15 rfl (by decide) ?_
    exact z_iret C hlk hr d_M_planted_16 (by rw [show F_M_planted S x1 = ((-1), (uM_thrown S 0)) from by rw [F_M_planted, if_pos c_12]] at hq; exact hq)

def F_M_verdict (S : SM) (x1 : Int32) (x2 : Int32) : SM :=
  if (sM_parts S) = 0 then
    (uM_thrown S 0)
  else
    if x2 = 0 then
      if (sM_together S) = 6 then
        (uM_thrown S 0)
      else
        (uM_together (uM_rows (uM_thrown S 0) (upd (sM_rows S) (Int32.toNatClampNeg (6 + (sM_together S))) (x1 &&& (F_M_all (uM_thrown S 0))))) ((sM_together S) + 1))
    else
      if (sM_needed S) = 6 then
        (uM_thrown S 0)
      else
        (uM_needed (uM_rows (uM_thrown S 0) (upd (sM_rows S) (Int32.toNatClampNeg (sM_needed S)) (x1 &&& (F_M_all (uM_thrown S 0))))) ((sM_needed S) + 1))
set_option maxRecDepth 100000 in
set_option maxHeartbeats 4000000 in
theorem c_M_verdict (G : zG) (l : Launch) (a : Nat → Nat) (S : SM) (x1 : Int32) (x2 : Int32) (hn : zr (sM_needed S) 0 6) (ht : zr (sM_together S) 0 6) : zM G l y_M_verdict b_M_verdict 3 (none) (zR 1 20) [.ref (a 0), .int x1, .int x2] (wM G a S) (fun r1 w1 => r1 = none ∧ w1 = wM G a (F_M_verdict S x1 x2)) := by
  generalize hPost : (fun (r1 : Option Value) (w1 : va_W) => r1 = none ∧ w1 = wM G a (F_M_verdict S x1 x2)) = Post
  have hq : Post (none) (wM G a (F_M_verdict S x1 x2)) := by rw [← hPost]; exact ⟨rfl, rfl⟩
  clear hPost
  refine zM_of (by decide) (Nat.le_of_ble_eq_true rfl) ?_
  intro p e s m args below meth c C hlk hr hin
  refine z_aload_n C 1 d_M_verdict_0 rfl rfl ?_
  refine z_iconst C 0 2 d_M_verdict_1 rfl (by decide) ?_
  refine z_put C kf_M_28 kp_M 0 (wM G a (uM_thrown S 0)) 5 d_M_verdict_2 rfl rfl rfl (znr_i _) (zft_i _) (Nat.le_of_ble_eq_true rfl) (wM_put_thrown G a S 0) ?_
  refine z_aload_n C 6 d_M_verdict_5 rfl rfl ?_
  refine z_get C kf_M_65 0 (v := .int (sM_parts S)) 9 d_M_verdict_6 rfl rfl rfl ?_
  refine z_if_eq C 32 12 d_M_verdict_9 (by decide) rfl (fun c_9 => ?_) (fun c_9 => ?_)
  · exact z_vret C hlk hr d_M_verdict_32 (by rw [show F_M_verdict S x1 x2 = (uM_thrown S 0) from by rw [F_M_verdict, if_pos c_9]] at hq; exact hq)
  · refine z_iload_n C 13 d_M_verdict_12 rfl rfl ?_
    refine z_if_eq C 23 16 d_M_verdict_13 (by decide) rfl (fun c_13 => ?_) (fun c_13 => ?_)
    · refine z_aload_n C 24 d_M_verdict_23 rfl rfl ?_
      refine z_get C kf_M_79 0 (v := .int (sM_together S)) 27 d_M_verdict_24 rfl rfl rfl ?_
      refine z_bipush C 6 29 d_M_verdict_27 rfl (by decide) ?_
      refine z_icmp_ne C 33 32 d_M_verdict_29 (by decide) rfl (fun c_29 => ?_) (fun c_29 => ?_)
      · refine z_iload_n C 34 d_M_verdict_33 rfl rfl ?_
        refine z_if_eq C 65 37 d_M_verdict_34 (by decide) rfl (fun c_34 => ?_) (fun c_34 => ?_)
        · refine z_aload_n C 66 d_M_verdict_65 rfl rfl ?_
          refine z_get C kf_M_21 0 (v := .ref (a 3)) 69 d_M_verdict_66 rfl rfl rfl ?_
          refine z_bipush C 6 71 d_M_verdict_69 rfl (by decide) ?_
          refine z_aload_n C 72 d_M_verdict_71 rfl rfl ?_
          refine z_get C kf_M_79 0 (v := .int (sM_together S)) 75 d_M_verdict_72 rfl rfl rfl ?_
          refine z_iadd C 76 d_M_verdict_75 rfl ?_
          refine z_iload_n C 77 d_M_verdict_76 rfl rfl ?_
          refine z_aload_n C 78 d_M_verdict_77 rfl rfl ?_
          refine z_goA C (z_V C kc_M_82 (c_M_all G l a (uM_thrown S 0)) (st := [.int x1, .int (6 + (sM_together S)), .ref (a 3)]) 0 3 rfl rfl rfl rfl (Nat.le_of_ble_eq_true rfl) ⟨⟨Nat.le_of_ble_eq_true rfl, Nat.le_of_ble_eq_true rfl⟩, Nat.le_of_ble_eq_true rfl, Nat.le_of_ble_eq_true rfl⟩ d_M_verdict_78) [.int (F_M_all (uM_thrown S 0)), .int x1, .int (6 + (sM_together S)), .ref (a 3)] 81 rfl rfl ?_
          refine z_iand C 82 d_M_verdict_81 rfl ?_
          refine z_iast C 3 0 (f := (sM_rows S)) (wM G a (uM_rows (uM_thrown S 0) (upd (sM_rows S) (Int32.toNatClampNeg (6 + (sM_together S))) (x1 &&& (F_M_all (uM_thrown S 0)))))) 83 d_M_verdict_82 rfl rfl rfl (zr_in (zr_add (zr_k 6 rfl) (zr_six c_29 ht)) (by decide) (by decide)) (wM_set_rows G a (uM_thrown S 0) (upd (sM_rows S) (Int32.toNatClampNeg (6 + (sM_together S))) (x1 &&& (F_M_all (uM_thrown S 0))))) ?_
          refine z_aload_n C 84 d_M_verdict_83 rfl rfl ?_
          refine z_dup C 85 d_M_verdict_84 rfl rfl ?_
          refine z_get C kf_M_79 0 (v := .int (sM_together S)) 88 d_M_verdict_85 rfl rfl rfl ?_
          refine z_iconst C 1 89 d_M_verdict_88 rfl (by decide) ?_
          refine z_iadd C 90 d_M_verdict_89 rfl ?_
          refine z_put C kf_M_79 kp_M 0 (wM G a (uM_together (uM_rows (uM_thrown S 0) (upd (sM_rows S) (Int32.toNatClampNeg (6 + (sM_together S))) (x1 &&& (F_M_all (uM_thrown S 0))))) ((sM_together S) + 1))) 93 d_M_verdict_90 rfl rfl rfl (znr_i _) (zft_i _) (Nat.le_of_ble_eq_true rfl) (wM_put_together G a (uM_rows (uM_thrown S 0) (upd (sM_rows S) (Int32.toNatClampNeg (6 + (sM_together S))) (x1 &&& (F_M_all (uM_thrown S 0))))) ((sM_together S) + 1)) ?_
          exact z_vret C hlk hr d_M_verdict_93 (by rw [show F_M_verdict S x1 x2 = (uM_together (uM_rows (uM_thrown S 0) (upd (sM_rows S) (Int32.toNatClampNeg (6 + (sM_together S))) (x1 &&& (F_M_all (uM_thrown S 0))))) ((sM_together S) + 1)) from by rw [F_M_verdict, if_neg c_9, if_pos c_13, if_neg c_29]] at hq; exact hq)
        · exact absurd c_13 c_34
      · exact z_vret C hlk hr d_M_verdict_32 (by rw [show F_M_verdict S x1 x2 = (uM_thrown S 0) from by rw [F_M_verdict, if_neg c_9, if_pos c_13, if_pos c_29]] at hq; exact hq)
    · refine z_aload_n C 17 d_M_verdict_16 rfl rfl ?_
      refine z_get C kf_M_76 0 (v := .int (sM_needed S)) 20 d_M_verdict_17 rfl rfl rfl ?_
      refine z_goto C 27 d_M_verdict_20 (by decide) ?_
      refine z_bipush C 6 29 d_M_verdict_27 rfl (by decide) ?_
      refine z_icmp_ne C 33 32 d_M_verdict_29 (by decide) rfl (fun c_29 => ?_) (fun c_29 => ?_)
      · refine z_iload_n C 34 d_M_verdict_33 rfl rfl ?_
        refine z_if_eq C 65 37 d_M_verdict_34 (by decide) rfl (fun c_34 => ?_) (fun c_34 => ?_)
        · exact absurd c_34 c_13
        · refine z_aload_n C 38 d_M_verdict_37 rfl rfl ?_
          refine z_get C kf_M_21 0 (v := .ref (a 3)) 41 d_M_verdict_38 rfl rfl rfl ?_
          refine z_aload_n C 42 d_M_verdict_41 rfl rfl ?_
          refine z_get C kf_M_76 0 (v := .int (sM_needed S)) 45 d_M_verdict_42 rfl rfl rfl ?_
          refine z_iload_n C 46 d_M_verdict_45 rfl rfl ?_
          refine z_aload_n C 47 d_M_verdict_46 rfl rfl ?_
          refine z_goA C (z_V C kc_M_82 (c_M_all G l a (uM_thrown S 0)) (st := [.int x1, .int (sM_needed S), .ref (a 3)]) 0 3 rfl rfl rfl rfl (Nat.le_of_ble_eq_true rfl) ⟨⟨Nat.le_of_ble_eq_true rfl, Nat.le_of_ble_eq_true rfl⟩, Nat.le_of_ble_eq_true rfl, Nat.le_of_ble_eq_true rfl⟩ d_M_verdict_47) [.int (F_M_all (uM_thrown S 0)), .int x1, .int (sM_needed S), .ref (a 3)] 50 rfl rfl ?_
          refine z_iand C 51 d_M_verdict_50 rfl ?_
          refine z_iast C 3 0 (f := (sM_rows S)) (wM G a (uM_rows (uM_thrown S 0) (upd (sM_rows S) (Int32.toNatClampNeg (sM_needed S)) (x1 &&& (F_M_all (uM_thrown S 0)))))) 52 d_M_verdict_51 rfl rfl rfl (zr_in hn (by decide) (by decide)) (wM_set_rows G a (uM_thrown S 0) (upd (sM_rows S) (Int32.toNatClampNeg (sM_needed S)) (x1 &&& (F_M_all (uM_thrown S 0))))) ?_
          refine z_aload_n C 53 d_M_verdict_52 rfl rfl ?_
          refine z_dup C 54 d_M_verdict_53 rfl rfl ?_
          refine z_get C kf_M_76 0 (v := .int (sM_needed S)) 57 d_M_verdict_54 rfl rfl rfl ?_
          refine z_iconst C 1 58 d_M_verdict_57 rfl (by decide) ?_
          refine z_iadd C 59 d_M_verdict_58 rfl ?_
          refine z_put C kf_M_76 kp_M 0 (wM G a (uM_needed (uM_rows (uM_thrown S 0) (upd (sM_rows S) (Int32.toNatClampNeg (sM_needed S)) (x1 &&& (F_M_all (uM_thrown S 0))))) ((sM_needed S) + 1))) 62 d_M_verdict_59 rfl rfl rfl (znr_i _) (zft_i _) (Nat.le_of_ble_eq_true rfl) (wM_put_needed G a (uM_rows (uM_thrown S 0) (upd (sM_rows S) (Int32.toNatClampNeg (sM_needed S)) (x1 &&& (F_M_all (uM_thrown S 0))))) ((sM_needed S) + 1)) ?_
          refine z_goto C 93 d_M_verdict_62 (by decide) ?_
          exact z_vret C hlk hr d_M_verdict_93 (by rw [show F_M_verdict S x1 x2 = (uM_needed (uM_rows (uM_thrown S 0) (upd (sM_rows S) (Int32.toNatClampNeg (sM_needed S)) (x1 &&& (F_M_all (uM_thrown S 0))))) ((sM_needed S) + 1)) from by rw [F_M_verdict, if_neg c_9, if_neg c_13, if_neg c_29]] at hq; exact hq)
      · exact z_vret C hlk hr d_M_verdict_32 (by rw [show F_M_verdict S x1 x2 = (uM_thrown S 0) from by rw [F_M_verdict, if_neg c_9, if_neg c_13, if_pos c_29]] at hq; exact hq)

def L_M_stays_43 : Nat → SM → Int32 → Int32 → Int32 → Int32
  | 0, S, v1, v2, v3 => 0
  | n + 1, S, v1, v2, v3 =>
    if (sM_together S) ≤ v3 then
      v2
    else
      if v2 = 0 then
        (L_M_stays_43 n S v1 0 (v3 + 1))
      else
        if (((sM_rows S) (Int32.toNatClampNeg (6 + v3))) &&& v1) = 0 then
          (L_M_stays_43 n S v1 1 (v3 + 1))
        else
          if (((sM_rows S) (Int32.toNatClampNeg (6 + v3))) &&& v1) = ((sM_rows S) (Int32.toNatClampNeg (6 + v3))) then
            (L_M_stays_43 n S v1 1 (v3 + 1))
          else
            (L_M_stays_43 n S v1 0 (v3 + 1))
set_option maxRecDepth 100000 in
set_option maxHeartbeats 4000000 in
theorem l_M_stays_43 (G : zG) (l : Launch) (a : Nat → Nat) {p : Program} {e : Env} {s : State} {m : MethodId} {args : Array Value} {below : List Frame} {meth : Method} {c : Code} {w0 : va_W} {Post : Option Value → va_W → Prop} (C : zC p s m args meth c b_M_stays 5 N_M G (va_A w0 s.heap.size)) (hlk : meth.locks = false) (hr : meth.sig.returnType = some .boolean) :
    ∀ (n : Nat) (S : SM) (v1 : Int32) (v2 : Int32) (v3 : Int32), (Int32.toInt (sM_together S) - Int32.toInt v3).toNat < n → (zr (sM_together S) 0 6 ∧ ¬ v3 < 0 ∧ (v2 = 0 ∨ v2 = 1)) → Post (some (.int (L_M_stays_43 n S v1 v2 v3))) (wM G a S) → zV p l e (zR 0 0) s m args below meth c 5 G (va_A w0 s.heap.size) (MQ below (zQ G w0 s.heap.size Post) args s 0 0 (va_A w0 s.heap.size)) 0 0 (wM G a S) 43 [(0, .ref (a 0)), (1, .int v1), (2, .int v2), (3, .int v3)] [] := by
  intro n
  induction n with
  | zero => intro S v1 v2 v3 h; exact absurd h (Nat.not_lt_zero _)
  | succ n ih =>
    intro S v1 v2 v3 hmu hpre hq
    refine z_iload_n C 44 d_M_stays_43 rfl rfl ?_
    refine z_aload_n C 45 d_M_stays_44 rfl rfl ?_
    refine z_get C kf_M_79 0 (v := .int (sM_together S)) 48 d_M_stays_45 rfl rfl rfl ?_
    refine z_icmp_ge C 99 51 d_M_stays_48 (by decide) rfl (fun c_48 => ?_) (fun c_48 => ?_)
    · refine z_iload_n C 100 d_M_stays_99 rfl rfl ?_
      exact z_zret C hlk (bi_nar hpre.2.2) hr d_M_stays_100 (by rw [show L_M_stays_43 (n + 1) S v1 v2 v3 = v2 from by rw [L_M_stays_43, if_pos c_48]] at hq; exact hq)
    · refine z_aload_n C 52 d_M_stays_51 rfl rfl ?_
      refine z_get C kf_M_21 0 (v := .ref (a 3)) 55 d_M_stays_52 rfl rfl rfl ?_
      refine z_bipush C 6 57 d_M_stays_55 rfl (by decide) ?_
      refine z_iload_n C 58 d_M_stays_57 rfl rfl ?_
      refine z_iadd C 59 d_M_stays_58 rfl ?_
      refine z_iald C 3 0 (f := (sM_rows S)) 60 d_M_stays_59 rfl rfl rfl (zr_in (zr_add (zr_k 6 rfl) (zr_lt hpre.2.1 c_48 hpre.1 (by decide))) (by decide) (by decide)) ?_
      refine z_iload_n C 61 d_M_stays_60 rfl rfl ?_
      refine z_iand C 62 d_M_stays_61 rfl ?_
      refine z_istore C [(4, .int (((sM_rows S) (Int32.toNatClampNeg (6 + v3))) &&& v1)), (0, .ref (a 0)), (1, .int v1), (2, .int v2), (3, .int v3)] 64 d_M_stays_62 rfl (by decide) rfl ?_
      refine z_iload_n C 65 d_M_stays_64 rfl rfl ?_
      refine z_if_eq C 91 68 d_M_stays_65 (by decide) rfl (fun c_65 => ?_) (fun c_65 => ?_)
      · refine z_iconst C 0 92 d_M_stays_91 rfl (by decide) ?_
        refine z_istore_n C [(2, .int 0), (4, .int (((sM_rows S) (Int32.toNatClampNeg (6 + v3))) &&& v1)), (0, .ref (a 0)), (1, .int v1), (3, .int v3)] 93 d_M_stays_92 rfl (by decide) rfl ?_
        refine z_iinc C (v3 + 1) [(3, .int (v3 + 1)), (2, .int 0), (4, .int (((sM_rows S) (Int32.toNatClampNeg (6 + v3))) &&& v1)), (0, .ref (a 0)), (1, .int v1)] 96 d_M_stays_93 rfl (by decide) rfl rfl rfl ?_
        refine z_goto C 43 d_M_stays_96 (by decide) ?_
        refine z_lvs [3, 4, 1, 0] [(0, .ref (a 0)), (1, .int v1), (2, .int 0), (3, .int (v3 + 1))] rfl ?_
        exact ih S v1 0 (v3 + 1) (zdec c_48 hmu) ⟨hpre.1, zi_nn c_48 hpre.2.1, (by first | exact Or.inl rfl | exact Or.inr rfl)⟩ (by rw [show L_M_stays_43 (n + 1) S v1 v2 v3 = (L_M_stays_43 n S v1 0 (v3 + 1)) from by rw [L_M_stays_43, if_neg c_48, if_pos c_65]] at hq; exact hq)
      · refine z_iload C 70 d_M_stays_68 rfl rfl ?_
        refine z_if_eq C 87 73 d_M_stays_70 (by decide) rfl (fun c_70 => ?_) (fun c_70 => ?_)
        · refine z_iconst C 1 88 d_M_stays_87 rfl (by decide) ?_
          refine z_goto C 92 d_M_stays_88 (by decide) ?_
          refine z_istore_n C [(2, .int 1), (4, .int (((sM_rows S) (Int32.toNatClampNeg (6 + v3))) &&& v1)), (0, .ref (a 0)), (1, .int v1), (3, .int v3)] 93 d_M_stays_92 rfl (by decide) rfl ?_
          refine z_iinc C (v3 + 1) [(3, .int (v3 + 1)), (2, .int 1), (4, .int (((sM_rows S) (Int32.toNatClampNeg (6 + v3))) &&& v1)), (0, .ref (a 0)), (1, .int v1)] 96 d_M_stays_93 rfl (by decide) rfl rfl rfl ?_
          refine z_goto C 43 d_M_stays_96 (by decide) ?_
          refine z_lvs [3, 4, 1, 0] [(0, .ref (a 0)), (1, .int v1), (2, .int 1), (3, .int (v3 + 1))] rfl ?_
          exact ih S v1 1 (v3 + 1) (zdec c_48 hmu) ⟨hpre.1, zi_nn c_48 hpre.2.1, (by first | exact Or.inl rfl | exact Or.inr rfl)⟩ (by rw [show L_M_stays_43 (n + 1) S v1 v2 v3 = (L_M_stays_43 n S v1 1 (v3 + 1)) from by rw [L_M_stays_43, if_neg c_48, if_neg c_65, if_pos c_70]] at hq; exact hq)
        · refine z_iload C 75 d_M_stays_73 rfl rfl ?_
          refine z_aload_n C 76 d_M_stays_75 rfl rfl ?_
          refine z_get C kf_M_21 0 (v := .ref (a 3)) 79 d_M_stays_76 rfl rfl rfl ?_
          refine z_bipush C 6 81 d_M_stays_79 rfl (by decide) ?_
          refine z_iload_n C 82 d_M_stays_81 rfl rfl ?_
          refine z_iadd C 83 d_M_stays_82 rfl ?_
          refine z_iald C 3 0 (f := (sM_rows S)) 84 d_M_stays_83 rfl rfl rfl (zr_in (zr_add (zr_k 6 rfl) (zr_lt hpre.2.1 c_48 hpre.1 (by decide))) (by decide) (by decide)) ?_
          refine z_icmp_ne C 91 87 d_M_stays_84 (by decide) rfl (fun c_84 => ?_) (fun c_84 => ?_)
          · refine z_iconst C 0 92 d_M_stays_91 rfl (by decide) ?_
            refine z_istore_n C [(2, .int 0), (4, .int (((sM_rows S) (Int32.toNatClampNeg (6 + v3))) &&& v1)), (0, .ref (a 0)), (1, .int v1), (3, .int v3)] 93 d_M_stays_92 rfl (by decide) rfl ?_
            refine z_iinc C (v3 + 1) [(3, .int (v3 + 1)), (2, .int 0), (4, .int (((sM_rows S) (Int32.toNatClampNeg (6 + v3))) &&& v1)), (0, .ref (a 0)), (1, .int v1)] 96 d_M_stays_93 rfl (by decide) rfl rfl rfl ?_
            refine z_goto C 43 d_M_stays_96 (by decide) ?_
            refine z_lvs [3, 4, 1, 0] [(0, .ref (a 0)), (1, .int v1), (2, .int 0), (3, .int (v3 + 1))] rfl ?_
            exact ih S v1 0 (v3 + 1) (zdec c_48 hmu) ⟨hpre.1, zi_nn c_48 hpre.2.1, (by first | exact Or.inl rfl | exact Or.inr rfl)⟩ (by rw [show L_M_stays_43 (n + 1) S v1 v2 v3 = (L_M_stays_43 n S v1 0 (v3 + 1)) from by rw [L_M_stays_43, if_neg c_48, if_neg c_65, if_neg c_70, if_neg c_84]] at hq; exact hq)
          · refine z_iconst C 1 88 d_M_stays_87 rfl (by decide) ?_
            refine z_goto C 92 d_M_stays_88 (by decide) ?_
            refine z_istore_n C [(2, .int 1), (4, .int (((sM_rows S) (Int32.toNatClampNeg (6 + v3))) &&& v1)), (0, .ref (a 0)), (1, .int v1), (3, .int v3)] 93 d_M_stays_92 rfl (by decide) rfl ?_
            refine z_iinc C (v3 + 1) [(3, .int (v3 + 1)), (2, .int 1), (4, .int (((sM_rows S) (Int32.toNatClampNeg (6 + v3))) &&& v1)), (0, .ref (a 0)), (1, .int v1)] 96 d_M_stays_93 rfl (by decide) rfl rfl rfl ?_
            refine z_goto C 43 d_M_stays_96 (by decide) ?_
            refine z_lvs [3, 4, 1, 0] [(0, .ref (a 0)), (1, .int v1), (2, .int 1), (3, .int (v3 + 1))] rfl ?_
            exact ih S v1 1 (v3 + 1) (zdec c_48 hmu) ⟨hpre.1, zi_nn c_48 hpre.2.1, (by first | exact Or.inl rfl | exact Or.inr rfl)⟩ (by rw [show L_M_stays_43 (n + 1) S v1 v2 v3 = (L_M_stays_43 n S v1 1 (v3 + 1)) from by rw [L_M_stays_43, if_neg c_48, if_neg c_65, if_neg c_70, if_pos c_84]] at hq; exact hq)
def L_M_stays_4 : Nat → SM → Int32 → Int32 → Int32 → Int32
  | 0, S, v1, v2, v3 => 0
  | n + 1, S, v1, v2, v3 =>
    if (sM_needed S) ≤ v3 then
      (L_M_stays_43 ((Int32.toInt (sM_together S) - Int32.toInt 0).toNat + 1) S v1 v2 0)
    else
      if v2 = 0 then
        if (((sM_rows S) (Int32.toNatClampNeg v3)) &&& (v1 ^^^ (-1))) = 0 then
          (L_M_stays_4 n S v1 1 (v3 + 1))
        else
          (L_M_stays_4 n S v1 0 (v3 + 1))
      else
        (L_M_stays_4 n S v1 1 (v3 + 1))
set_option maxRecDepth 100000 in
set_option maxHeartbeats 4000000 in
theorem l_M_stays_4 (G : zG) (l : Launch) (a : Nat → Nat) {p : Program} {e : Env} {s : State} {m : MethodId} {args : Array Value} {below : List Frame} {meth : Method} {c : Code} {w0 : va_W} {Post : Option Value → va_W → Prop} (C : zC p s m args meth c b_M_stays 5 N_M G (va_A w0 s.heap.size)) (hlk : meth.locks = false) (hr : meth.sig.returnType = some .boolean) :
    ∀ (n : Nat) (S : SM) (v1 : Int32) (v2 : Int32) (v3 : Int32), (Int32.toInt (sM_needed S) - Int32.toInt v3).toNat < n → (zr (sM_needed S) 0 6 ∧ zr (sM_together S) 0 6 ∧ ¬ v3 < 0 ∧ (v2 = 0 ∨ v2 = 1)) → Post (some (.int (L_M_stays_4 n S v1 v2 v3))) (wM G a S) → zV p l e (zR 0 0) s m args below meth c 5 G (va_A w0 s.heap.size) (MQ below (zQ G w0 s.heap.size Post) args s 0 0 (va_A w0 s.heap.size)) 0 0 (wM G a S) 4 [(0, .ref (a 0)), (1, .int v1), (2, .int v2), (3, .int v3)] [] := by
  intro n
  induction n with
  | zero => intro S v1 v2 v3 h; exact absurd h (Nat.not_lt_zero _)
  | succ n ih =>
    intro S v1 v2 v3 hmu hpre hq
    refine z_iload_n C 5 d_M_stays_4 rfl rfl ?_
    refine z_aload_n C 6 d_M_stays_5 rfl rfl ?_
    refine z_get C kf_M_76 0 (v := .int (sM_needed S)) 9 d_M_stays_6 rfl rfl rfl ?_
    refine z_icmp_ge C 41 12 d_M_stays_9 (by decide) rfl (fun c_9 => ?_) (fun c_9 => ?_)
    · refine z_iconst C 0 42 d_M_stays_41 rfl (by decide) ?_
      refine z_istore_n C [(3, .int 0), (0, .ref (a 0)), (1, .int v1), (2, .int v2)] 43 d_M_stays_42 rfl (by decide) rfl ?_
      refine z_lvs [1, 2, 3, 0] [(0, .ref (a 0)), (1, .int v1), (2, .int v2), (3, .int 0)] rfl ?_
      exact l_M_stays_43 G l a C hlk hr _ S v1 v2 0 (Nat.lt_succ_self _) ⟨hpre.2.1, by decide, hpre.2.2.2⟩ (by rw [show L_M_stays_4 (n + 1) S v1 v2 v3 = (L_M_stays_43 ((Int32.toInt (sM_together S) - Int32.toInt 0).toNat + 1) S v1 v2 0) from by rw [L_M_stays_4, if_pos c_9]] at hq; exact hq)
    · refine z_iload_n C 13 d_M_stays_12 rfl rfl ?_
      refine z_if_ne C 29 16 d_M_stays_13 (by decide) rfl (fun c_13 => ?_) (fun c_13 => ?_)
      · refine z_iconst C 1 30 d_M_stays_29 rfl (by decide) ?_
        refine z_goto C 34 d_M_stays_30 (by decide) ?_
        refine z_istore_n C [(2, .int 1), (0, .ref (a 0)), (1, .int v1), (3, .int v3)] 35 d_M_stays_34 rfl (by decide) rfl ?_
        refine z_iinc C (v3 + 1) [(3, .int (v3 + 1)), (2, .int 1), (0, .ref (a 0)), (1, .int v1)] 38 d_M_stays_35 rfl (by decide) rfl rfl rfl ?_
        refine z_goto C 4 d_M_stays_38 (by decide) ?_
        refine z_lvs [2, 3, 1, 0] [(0, .ref (a 0)), (1, .int v1), (2, .int 1), (3, .int (v3 + 1))] rfl ?_
        exact ih S v1 1 (v3 + 1) (zdec c_9 hmu) ⟨hpre.1, hpre.2.1, zi_nn c_9 hpre.2.2.1, (by first | exact Or.inl rfl | exact Or.inr rfl)⟩ (by rw [show L_M_stays_4 (n + 1) S v1 v2 v3 = (L_M_stays_4 n S v1 1 (v3 + 1)) from by rw [L_M_stays_4, if_neg c_9, if_neg c_13]] at hq; exact hq)
      · refine z_aload_n C 17 d_M_stays_16 rfl rfl ?_
        refine z_get C kf_M_21 0 (v := .ref (a 3)) 20 d_M_stays_17 rfl rfl rfl ?_
        refine z_iload_n C 21 d_M_stays_20 rfl rfl ?_
        refine z_iald C 3 0 (f := (sM_rows S)) 22 d_M_stays_21 rfl rfl rfl (zr_in (zr_lt hpre.2.2.1 c_9 hpre.1 (by decide)) (by decide) (by decide)) ?_
        refine z_iload_n C 23 d_M_stays_22 rfl rfl ?_
        refine z_iconst C (-1) 24 d_M_stays_23 rfl (by decide) ?_
        refine z_ixor C 25 d_M_stays_24 rfl ?_
        refine z_iand C 26 d_M_stays_25 rfl ?_
        refine z_if_ne C 33 29 d_M_stays_26 (by decide) rfl (fun c_26 => ?_) (fun c_26 => ?_)
        · refine z_iconst C 0 34 d_M_stays_33 rfl (by decide) ?_
          refine z_istore_n C [(2, .int 0), (0, .ref (a 0)), (1, .int v1), (3, .int v3)] 35 d_M_stays_34 rfl (by decide) rfl ?_
          refine z_iinc C (v3 + 1) [(3, .int (v3 + 1)), (2, .int 0), (0, .ref (a 0)), (1, .int v1)] 38 d_M_stays_35 rfl (by decide) rfl rfl rfl ?_
          refine z_goto C 4 d_M_stays_38 (by decide) ?_
          refine z_lvs [2, 3, 1, 0] [(0, .ref (a 0)), (1, .int v1), (2, .int 0), (3, .int (v3 + 1))] rfl ?_
          exact ih S v1 0 (v3 + 1) (zdec c_9 hmu) ⟨hpre.1, hpre.2.1, zi_nn c_9 hpre.2.2.1, (by first | exact Or.inl rfl | exact Or.inr rfl)⟩ (by rw [show L_M_stays_4 (n + 1) S v1 v2 v3 = (L_M_stays_4 n S v1 0 (v3 + 1)) from by rw [L_M_stays_4, if_neg c_9, if_pos c_13, if_neg c_26]] at hq; exact hq)
        · refine z_iconst C 1 30 d_M_stays_29 rfl (by decide) ?_
          refine z_goto C 34 d_M_stays_30 (by decide) ?_
          refine z_istore_n C [(2, .int 1), (0, .ref (a 0)), (1, .int v1), (3, .int v3)] 35 d_M_stays_34 rfl (by decide) rfl ?_
          refine z_iinc C (v3 + 1) [(3, .int (v3 + 1)), (2, .int 1), (0, .ref (a 0)), (1, .int v1)] 38 d_M_stays_35 rfl (by decide) rfl rfl rfl ?_
          refine z_goto C 4 d_M_stays_38 (by decide) ?_
          refine z_lvs [2, 3, 1, 0] [(0, .ref (a 0)), (1, .int v1), (2, .int 1), (3, .int (v3 + 1))] rfl ?_
          exact ih S v1 1 (v3 + 1) (zdec c_9 hmu) ⟨hpre.1, hpre.2.1, zi_nn c_9 hpre.2.2.1, (by first | exact Or.inl rfl | exact Or.inr rfl)⟩ (by rw [show L_M_stays_4 (n + 1) S v1 v2 v3 = (L_M_stays_4 n S v1 1 (v3 + 1)) from by rw [L_M_stays_4, if_neg c_9, if_pos c_13, if_pos c_26]] at hq; exact hq)
def F_M_stays (S : SM) (x1 : Int32) : Int32 :=
  (L_M_stays_4 ((Int32.toInt (sM_needed S) - Int32.toInt 0).toNat + 1) S x1 0 0)
set_option maxRecDepth 100000 in
set_option maxHeartbeats 4000000 in
theorem c_M_stays (G : zG) (l : Launch) (a : Nat → Nat) (S : SM) (x1 : Int32) (hn : zr (sM_needed S) 0 6) (ht : zr (sM_together S) 0 6) : zM G l y_M_stays b_M_stays 5 (some .boolean) (zR 0 0) [.ref (a 0), .int x1] (wM G a S) (fun r1 w1 => r1 = some (.int (F_M_stays S x1)) ∧ w1 = wM G a S) := by
  generalize hPost : (fun (r1 : Option Value) (w1 : va_W) => r1 = some (.int (F_M_stays S x1)) ∧ w1 = wM G a S) = Post
  have hq : Post (some (.int (F_M_stays S x1))) (wM G a S) := by rw [← hPost]; exact ⟨rfl, rfl⟩
  clear hPost
  refine zM_of (by decide) (Nat.le_of_ble_eq_true rfl) ?_
  intro p e s m args below meth c C hlk hr hin
  refine z_iconst C 0 1 d_M_stays_0 rfl (by decide) ?_
  refine z_istore_n C [(2, .int 0), (0, .ref (a 0)), (1, .int x1)] 2 d_M_stays_1 rfl (by decide) rfl ?_
  refine z_iconst C 0 3 d_M_stays_2 rfl (by decide) ?_
  refine z_istore_n C [(3, .int 0), (2, .int 0), (0, .ref (a 0)), (1, .int x1)] 4 d_M_stays_3 rfl (by decide) rfl ?_
  refine z_lvs [2, 3, 1, 0] [(0, .ref (a 0)), (1, .int x1), (2, .int 0), (3, .int 0)] rfl ?_
  exact l_M_stays_4 G l a C hlk hr _ S x1 0 0 (Nat.lt_succ_self _) ⟨hn, ht, by decide, Or.inl rfl⟩ (by rw [show F_M_stays S x1 = (L_M_stays_4 ((Int32.toInt (sM_needed S) - Int32.toInt 0).toNat + 1) S x1 0 0) from by rw [F_M_stays]] at hq; exact hq)


theorem bi_stays43 : ∀ (n : Nat) (S : SM) (v1 v2 v3 : Int32), (v2 = 0 ∨ v2 = 1) → L_M_stays_43 n S v1 v2 v3 = 0 ∨ L_M_stays_43 n S v1 v2 v3 = 1 := by
  intro n
  induction n with
  | zero => intro S v1 v2 v3 _; exact Or.inl rfl
  | succ n ih =>
    intro S v1 v2 v3 h
    rw [L_M_stays_43]
    split
    · exact h
    · (repeat' split) <;> exact ih _ _ _ _ (by first | exact Or.inl rfl | exact Or.inr rfl)
theorem bi_stays4 : ∀ (n : Nat) (S : SM) (v1 v2 v3 : Int32), (v2 = 0 ∨ v2 = 1) → L_M_stays_4 n S v1 v2 v3 = 0 ∨ L_M_stays_4 n S v1 v2 v3 = 1 := by
  intro n
  induction n with
  | zero => intro S v1 v2 v3 _; exact Or.inl rfl
  | succ n ih =>
    intro S v1 v2 v3 h
    rw [L_M_stays_4]
    split
    · exact bi_stays43 _ _ _ _ _ h
    · (repeat' split) <;> exact ih _ _ _ _ (by first | exact Or.inl rfl | exact Or.inr rfl)
theorem bi_stays (S : SM) (x : Int32) : F_M_stays S x = 0 ∨ F_M_stays S x = 1 := by
  unfold F_M_stays
  exact bi_stays4 _ _ _ _ _ (Or.inl rfl)

def L_M_count_4 : Nat → Int32 → Int32 → Int32 → Int32
  | 0, v0, v1, v2 => 0
  | n + 1, v0, v1, v2 =>
    if 21 ≤ v2 then
      v1
    else
      (L_M_count_4 n v0 (v1 + ((v0 >>> (v2 &&& 31)) &&& 1)) (v2 + 1))
set_option maxRecDepth 100000 in
set_option maxHeartbeats 4000000 in
theorem l_M_count_4 (G : zG) (l : Launch) {p : Program} {e : Env} {s : State} {m : MethodId} {args : Array Value} {below : List Frame} {meth : Method} {c : Code} {w0 : va_W} {Post : Option Value → va_W → Prop} (C : zC p s m args meth c b_M_count 3 N_M G (va_A w0 s.heap.size)) (hlk : meth.locks = false) (hr : meth.sig.returnType = some .int) :
    ∀ (n : Nat) (v0 : Int32) (v1 : Int32) (v2 : Int32), (Int32.toInt 21 - Int32.toInt v2).toNat < n → Post (some (.int (L_M_count_4 n v0 v1 v2))) ([]) → zV p l e (zR 0 0) s m args below meth c 3 G (va_A w0 s.heap.size) (MQ below (zQ G w0 s.heap.size Post) args s 0 0 (va_A w0 s.heap.size)) 0 0 ([]) 4 [(0, .int v0), (1, .int v1), (2, .int v2)] [] := by
  intro n
  induction n with
  | zero => intro v0 v1 v2 h; exact absurd h (Nat.not_lt_zero _)
  | succ n ih =>
    intro v0 v1 v2 hmu hq
    refine z_iload_n C 5 d_M_count_4 rfl rfl ?_
    refine z_bipush C 21 7 d_M_count_5 rfl (by decide) ?_
    refine z_icmp_ge C 24 10 d_M_count_7 (by decide) rfl (fun c_7 => ?_) (fun c_7 => ?_)
    · refine z_iload_n C 25 d_M_count_24 rfl rfl ?_
      exact z_iret C hlk hr d_M_count_25 (by rw [show L_M_count_4 (n + 1) v0 v1 v2 = v1 from by rw [L_M_count_4, if_pos c_7]] at hq; exact hq)
    · refine z_iload_n C 11 d_M_count_10 rfl rfl ?_
      refine z_iload_n C 12 d_M_count_11 rfl rfl ?_
      refine z_iload_n C 13 d_M_count_12 rfl rfl ?_
      refine z_ishr C 14 d_M_count_13 rfl ?_
      refine z_iconst C 1 15 d_M_count_14 rfl (by decide) ?_
      refine z_iand C 16 d_M_count_15 rfl ?_
      refine z_iadd C 17 d_M_count_16 rfl ?_
      refine z_istore_n C [(1, .int (v1 + ((v0 >>> (v2 &&& 31)) &&& 1))), (0, .int v0), (2, .int v2)] 18 d_M_count_17 rfl (by decide) rfl ?_
      refine z_iinc C (v2 + 1) [(2, .int (v2 + 1)), (1, .int (v1 + ((v0 >>> (v2 &&& 31)) &&& 1))), (0, .int v0)] 21 d_M_count_18 rfl (by decide) rfl rfl rfl ?_
      refine z_goto C 4 d_M_count_21 (by decide) ?_
      refine z_lvs [2, 1, 0] [(0, .int v0), (1, .int (v1 + ((v0 >>> (v2 &&& 31)) &&& 1))), (2, .int (v2 + 1))] rfl ?_
      exact ih v0 (v1 + ((v0 >>> (v2 &&& 31)) &&& 1)) (v2 + 1) (zdec c_7 hmu) (by rw [show L_M_count_4 (n + 1) v0 v1 v2 = (L_M_count_4 n v0 (v1 + ((v0 >>> (v2 &&& 31)) &&& 1)) (v2 + 1)) from by rw [L_M_count_4, if_neg c_7]] at hq; exact hq)
def F_M_count (x0 : Int32) : Int32 :=
  (L_M_count_4 ((Int32.toInt 21 - Int32.toInt 0).toNat + 1) x0 0 0)
set_option maxRecDepth 100000 in
set_option maxHeartbeats 4000000 in
theorem c_M_count (G : zG) (l : Launch) (x0 : Int32)  : zM G l y_M_count b_M_count 3 (some .int) (zR 0 0) [.int x0] ([]) (fun r1 w1 => r1 = some (.int (F_M_count x0)) ∧ w1 = []) := by
  generalize hPost : (fun (r1 : Option Value) (w1 : va_W) => r1 = some (.int (F_M_count x0)) ∧ w1 = []) = Post
  have hq : Post (some (.int (F_M_count x0))) ([]) := by rw [← hPost]; exact ⟨rfl, rfl⟩
  clear hPost
  refine zM_of (by decide) (Nat.le_of_ble_eq_true rfl) ?_
  intro p e s m args below meth c C hlk hr hin
  refine z_iconst C 0 1 d_M_count_0 rfl (by decide) ?_
  refine z_istore_n C [(1, .int 0), (0, .int x0)] 2 d_M_count_1 rfl (by decide) rfl ?_
  refine z_iconst C 0 3 d_M_count_2 rfl (by decide) ?_
  refine z_istore_n C [(2, .int 0), (1, .int 0), (0, .int x0)] 4 d_M_count_3 rfl (by decide) rfl ?_
  refine z_lvs [2, 1, 0] [(0, .int x0), (1, .int 0), (2, .int 0)] rfl ?_
  exact l_M_count_4 G l C hlk hr _ x0 0 0 (Nat.lt_succ_self _) (by rw [show F_M_count x0 = (L_M_count_4 ((Int32.toInt 21 - Int32.toInt 0).toNat + 1) x0 0 0) from by rw [F_M_count]] at hq; exact hq)

def L_M_shorter_35 (κ : SM → Int32 → Int32 × SM) : Nat → SM → Int32 → Int32 → Int32 × SM
  | 0, S, v1, v2 => (0, S)
  | n + 1, S, v1, v2 =>
    if v2 < 0 then
      (κ S v1)
    else
      if (((sM_left S) >>> (v2 &&& 31)) &&& 1) = 0 then
        (L_M_shorter_35 κ n S v1 (v2 + (-1)))
      else
        if (F_M_stays S ((sM_left S) &&& ((1 <<< (v2 &&& 31)) ^^^ (-1)))) = 0 then
          (L_M_shorter_35 κ n S v1 (v2 + (-1)))
        else
          (L_M_shorter_35 κ n (uM_left S ((sM_left S) &&& ((1 <<< (v2 &&& 31)) ^^^ (-1)))) 1 (v2 + (-1)))
set_option maxRecDepth 100000 in
set_option maxHeartbeats 4000000 in
theorem l_M_shorter_35 (G : zG) (l : Launch) (a : Nat → Nat) {y : Nat} {p : Program} {e : Env} {s : State} {m : MethodId} {args : Array Value} {below : List Frame} {meth : Method} {c : Code} {w0 : va_W} {Post : Option Value → va_W → Prop} (C : zC p s m args meth c b_M_shorter 3 N_M G (va_A w0 s.heap.size)) (hlk : meth.locks = false) (hr : meth.sig.returnType = some .int) (κ : SM → Int32 → Int32 × SM) (hk : ∀ (S9 : SM) (u1 : Int32), (zr (sM_needed S9) 0 6 ∧ zr (sM_together S9) 0 6 ∧ (u1 = 0 ∨ (sM_left S9).toBitVec.toNat < y)) → Post (some (.int (κ S9 u1).1)) (wM G a (κ S9 u1).2) → zV p l e (zR 1 24) s m args below meth c 3 G (va_A w0 s.heap.size) (MQ below (zQ G w0 s.heap.size Post) args s 0 0 (va_A w0 s.heap.size)) 0 0 (wM G a S9) 92 [(0, .ref (a 0)), (1, .int u1)] []) :
    ∀ (n : Nat) (S : SM) (v1 : Int32) (v2 : Int32), (Int32.toInt v2 + 1).toNat < n → (zr (sM_needed S) 0 6 ∧ zr (sM_together S) 0 6 ∧ ((v1 = 0 ∧ (sM_left S).toBitVec.toNat ≤ y) ∨ (sM_left S).toBitVec.toNat < y)) → Post (some (.int (L_M_shorter_35 κ n S v1 v2).1)) (wM G a (L_M_shorter_35 κ n S v1 v2).2) → zV p l e (zR 1 24) s m args below meth c 3 G (va_A w0 s.heap.size) (MQ below (zQ G w0 s.heap.size Post) args s 0 0 (va_A w0 s.heap.size)) 0 0 (wM G a S) 35 [(0, .ref (a 0)), (1, .int v1), (2, .int v2)] [] := by
  intro n
  induction n with
  | zero => intro S v1 v2 h; exact absurd h (Nat.not_lt_zero _)
  | succ n ih =>
    intro S v1 v2 hmu hpre hq
    refine z_iload_n C 36 d_M_shorter_35 rfl rfl ?_
    refine z_if_lt C 92 39 d_M_shorter_36 (by decide) rfl (fun c_36 => ?_) (fun c_36 => ?_)
    · refine z_lvs [0, 1] [(0, .ref (a 0)), (1, .int v1)] rfl ?_
      exact hk S v1 ⟨hpre.1, hpre.2.1, hpre.2.2.imp And.left id⟩ (by rw [show L_M_shorter_35 κ (n + 1) S v1 v2 = (κ S v1) from by rw [L_M_shorter_35, if_pos c_36]] at hq; exact hq)
    · refine z_aload_n C 40 d_M_shorter_39 rfl rfl ?_
      refine z_get C kf_M_86 0 (v := .int (sM_left S)) 43 d_M_shorter_40 rfl rfl rfl ?_
      refine z_iload_n C 44 d_M_shorter_43 rfl rfl ?_
      refine z_ishr C 45 d_M_shorter_44 rfl ?_
      refine z_iconst C 1 46 d_M_shorter_45 rfl (by decide) ?_
      refine z_iand C 47 d_M_shorter_46 rfl ?_
      refine z_if_eq C 86 50 d_M_shorter_47 (by decide) rfl (fun c_47 => ?_) (fun c_47 => ?_)
      · refine z_iinc C (v2 + (-1)) [(2, .int (v2 + (-1))), (0, .ref (a 0)), (1, .int v1)] 89 d_M_shorter_86 rfl (by decide) rfl rfl rfl ?_
        refine z_goto C 35 d_M_shorter_89 (by decide) ?_
        refine z_lvs [1, 2, 0] [(0, .ref (a 0)), (1, .int v1), (2, .int (v2 + (-1)))] rfl ?_
        exact ih S v1 (v2 + (-1)) (zdecD c_36 hmu) hpre (by rw [show L_M_shorter_35 κ (n + 1) S v1 v2 = (L_M_shorter_35 κ n S v1 (v2 + (-1))) from by rw [L_M_shorter_35, if_neg c_36, if_pos c_47]] at hq; exact hq)
      · refine z_aload_n C 51 d_M_shorter_50 rfl rfl ?_
        refine z_aload_n C 52 d_M_shorter_51 rfl rfl ?_
        refine z_get C kf_M_86 0 (v := .int (sM_left S)) 55 d_M_shorter_52 rfl rfl rfl ?_
        refine z_iconst C 1 56 d_M_shorter_55 rfl (by decide) ?_
        refine z_iload_n C 57 d_M_shorter_56 rfl rfl ?_
        refine z_ishl C 58 d_M_shorter_57 rfl ?_
        refine z_iconst C (-1) 59 d_M_shorter_58 rfl (by decide) ?_
        refine z_ixor C 60 d_M_shorter_59 rfl ?_
        refine z_iand C 61 d_M_shorter_60 rfl ?_
        refine z_goA C (z_V C kc_M_102 (c_M_stays G l a S ((sM_left S) &&& ((1 <<< (v2 &&& 31)) ^^^ (-1))) hpre.1 hpre.2.1) (st := []) 0 3 rfl rfl rfl rfl (Nat.le_of_ble_eq_true rfl) ⟨⟨Nat.le_of_ble_eq_true rfl, Nat.le_of_ble_eq_true rfl⟩, Nat.le_of_ble_eq_true rfl, Nat.le_of_ble_eq_true rfl⟩ d_M_shorter_61) [.int (F_M_stays S ((sM_left S) &&& ((1 <<< (v2 &&& 31)) ^^^ (-1))))] 64 rfl rfl ?_
        refine z_if_ne C 70 67 d_M_shorter_64 (by decide) rfl (fun c_64 => ?_) (fun c_64 => ?_)
        · refine z_aload_n C 71 d_M_shorter_70 rfl rfl ?_
          refine z_dup C 72 d_M_shorter_71 rfl rfl ?_
          refine z_get C kf_M_86 0 (v := .int (sM_left S)) 75 d_M_shorter_72 rfl rfl rfl ?_
          refine z_iconst C 1 76 d_M_shorter_75 rfl (by decide) ?_
          refine z_iload_n C 77 d_M_shorter_76 rfl rfl ?_
          refine z_ishl C 78 d_M_shorter_77 rfl ?_
          refine z_iconst C (-1) 79 d_M_shorter_78 rfl (by decide) ?_
          refine z_ixor C 80 d_M_shorter_79 rfl ?_
          refine z_iand C 81 d_M_shorter_80 rfl ?_
          refine z_put C kf_M_86 kp_M 0 (wM G a (uM_left S ((sM_left S) &&& ((1 <<< (v2 &&& 31)) ^^^ (-1))))) 84 d_M_shorter_81 rfl rfl rfl (znr_i _) (zft_i _) (Nat.le_of_ble_eq_true rfl) (wM_put_left G a S ((sM_left S) &&& ((1 <<< (v2 &&& 31)) ^^^ (-1)))) ?_
          refine z_iconst C 1 85 d_M_shorter_84 rfl (by decide) ?_
          refine z_istore_n C [(1, .int 1), (0, .ref (a 0)), (2, .int v2)] 86 d_M_shorter_85 rfl (by decide) rfl ?_
          refine z_iinc C (v2 + (-1)) [(2, .int (v2 + (-1))), (1, .int 1), (0, .ref (a 0))] 89 d_M_shorter_86 rfl (by decide) rfl rfl rfl ?_
          refine z_goto C 35 d_M_shorter_89 (by decide) ?_
          refine z_lvs [2, 1, 0] [(0, .ref (a 0)), (1, .int 1), (2, .int (v2 + (-1)))] rfl ?_
          exact ih (uM_left S ((sM_left S) &&& ((1 <<< (v2 &&& 31)) ^^^ (-1)))) 1 (v2 + (-1)) (zdecD c_36 hmu) ⟨hpre.1, hpre.2.1, Or.inr (zlt_bit c_47 hpre.2.2)⟩ (by rw [show L_M_shorter_35 κ (n + 1) S v1 v2 = (L_M_shorter_35 κ n (uM_left S ((sM_left S) &&& ((1 <<< (v2 &&& 31)) ^^^ (-1)))) 1 (v2 + (-1))) from by rw [L_M_shorter_35, if_neg c_36, if_neg c_47, if_neg c_64]] at hq; exact hq)
        · refine z_goto C 86 d_M_shorter_67 (by decide) ?_
          refine z_iinc C (v2 + (-1)) [(2, .int (v2 + (-1))), (0, .ref (a 0)), (1, .int v1)] 89 d_M_shorter_86 rfl (by decide) rfl rfl rfl ?_
          refine z_goto C 35 d_M_shorter_89 (by decide) ?_
          refine z_lvs [1, 2, 0] [(0, .ref (a 0)), (1, .int v1), (2, .int (v2 + (-1)))] rfl ?_
          exact ih S v1 (v2 + (-1)) (zdecD c_36 hmu) hpre (by rw [show L_M_shorter_35 κ (n + 1) S v1 v2 = (L_M_shorter_35 κ n S v1 (v2 + (-1))) from by rw [L_M_shorter_35, if_neg c_36, if_neg c_47, if_pos c_64]] at hq; exact hq)
def L_M_shorter_22 : Nat → SM → Int32 → Int32 × SM
  | 0, S, v1 => (0, S)
  | n + 1, S, v1 =>
    if v1 = 0 then
      ((F_M_count (sM_left S)), S)
    else
      (L_M_shorter_35 (fun S9 u1 =>
          (L_M_shorter_22 n S9 u1)) ((Int32.toInt ((sM_parts S) - 1) + 1).toNat + 1) S 0 ((sM_parts S) - 1))
set_option maxRecDepth 100000 in
set_option maxHeartbeats 4000000 in
theorem l_M_shorter_22 (G : zG) (l : Launch) (a : Nat → Nat) {p : Program} {e : Env} {s : State} {m : MethodId} {args : Array Value} {below : List Frame} {meth : Method} {c : Code} {w0 : va_W} {Post : Option Value → va_W → Prop} (C : zC p s m args meth c b_M_shorter 3 N_M G (va_A w0 s.heap.size)) (hlk : meth.locks = false) (hr : meth.sig.returnType = some .int) :
    ∀ (n : Nat) (S : SM) (v1 : Int32), (if v1 = 0 then 0 else (sM_left S).toBitVec.toNat + 1) < n → (zr (sM_needed S) 0 6 ∧ zr (sM_together S) 0 6) → Post (some (.int (L_M_shorter_22 n S v1).1)) (wM G a (L_M_shorter_22 n S v1).2) → zV p l e (zR 1 24) s m args below meth c 3 G (va_A w0 s.heap.size) (MQ below (zQ G w0 s.heap.size Post) args s 0 0 (va_A w0 s.heap.size)) 0 0 (wM G a S) 22 [(0, .ref (a 0)), (1, .int v1)] [] := by
  intro n
  induction n with
  | zero => intro S v1 h; exact absurd h (Nat.not_lt_zero _)
  | succ n ih =>
    intro S v1 hmu hpre hq
    refine z_iload_n C 23 d_M_shorter_22 rfl rfl ?_
    refine z_if_eq C 95 26 d_M_shorter_23 (by decide) rfl (fun c_23 => ?_) (fun c_23 => ?_)
    · refine z_aload_n C 96 d_M_shorter_95 rfl rfl ?_
      refine z_get C kf_M_86 0 (v := .int (sM_left S)) 99 d_M_shorter_96 rfl rfl rfl ?_
      refine z_go0 C (z_S C kc_M_105 (c_M_count G l (sM_left S)) (st := []) rfl rfl (Nat.le_of_ble_eq_true rfl) ⟨⟨Nat.le_of_ble_eq_true rfl, Nat.le_of_ble_eq_true rfl⟩, Nat.le_of_ble_eq_true rfl, Nat.le_of_ble_eq_true rfl⟩ d_M_shorter_99) [0, 1, 2, 3] [.int (F_M_count (sM_left S))] 102 rfl rfl rfl rfl ?_
      exact z_iret C hlk hr d_M_shorter_102 (by rw [show L_M_shorter_22 (n + 1) S v1 = ((F_M_count (sM_left S)), S) from by rw [L_M_shorter_22, if_pos c_23]] at hq; exact hq)
    · refine z_iconst C 0 27 d_M_shorter_26 rfl (by decide) ?_
      refine z_istore_n C [(1, .int 0), (0, .ref (a 0))] 28 d_M_shorter_27 rfl (by decide) rfl ?_
      refine z_aload_n C 29 d_M_shorter_28 rfl rfl ?_
      refine z_get C kf_M_65 0 (v := .int (sM_parts S)) 32 d_M_shorter_29 rfl rfl rfl ?_
      refine z_iconst C 1 33 d_M_shorter_32 rfl (by decide) ?_
      refine z_isub C 34 d_M_shorter_33 rfl ?_
      refine z_istore_n C [(2, .int ((sM_parts S) - 1)), (1, .int 0), (0, .ref (a 0))] 35 d_M_shorter_34 rfl (by decide) rfl ?_
      refine z_lvs [2, 1, 0] [(0, .ref (a 0)), (1, .int 0), (2, .int ((sM_parts S) - 1))] rfl ?_
      refine l_M_shorter_35 G l a C hlk hr (fun S9 u1 =>
          (L_M_shorter_22 n S9 u1)) (fun S9 u1 hx hq => ?_) _ S 0 ((sM_parts S) - 1) (Nat.lt_succ_self _) ⟨hpre.1, hpre.2, Or.inl ⟨rfl, Nat.le_refl _⟩⟩ (by rw [show L_M_shorter_22 (n + 1) S v1 = (L_M_shorter_35 (fun S9 u1 =>
          (L_M_shorter_22 n S9 u1)) ((Int32.toInt ((sM_parts S) - 1) + 1).toNat + 1) S 0 ((sM_parts S) - 1)) from by rw [L_M_shorter_22, if_neg c_23]] at hq; exact hq)
      refine z_goto C 22 d_M_shorter_92 (by decide) ?_
      exact ih S9 u1 (zdecS c_23 hx.2.2 hmu) ⟨hx.1, hx.2.1⟩ (by (try dsimp only at hq); exact hq)
def F_M_shorter (S : SM)  : Int32 × SM :=
  (L_M_shorter_22 ((if (F_M_stays (uM_left (uM_thrown S 0) (F_M_all (uM_thrown S 0))) (F_M_all (uM_thrown S 0))) = 0 then 0 else (sM_left (uM_left (uM_thrown S 0) (F_M_all (uM_thrown S 0)))).toBitVec.toNat + 1) + 1) (uM_left (uM_thrown S 0) (F_M_all (uM_thrown S 0))) (F_M_stays (uM_left (uM_thrown S 0) (F_M_all (uM_thrown S 0))) (F_M_all (uM_thrown S 0))))
set_option maxRecDepth 100000 in
set_option maxHeartbeats 4000000 in
theorem c_M_shorter (G : zG) (l : Launch) (a : Nat → Nat) (S : SM)  (hn : zr (sM_needed S) 0 6) (ht : zr (sM_together S) 0 6) : zM G l y_M_shorter b_M_shorter 3 (some .int) (zR 1 24) [.ref (a 0)] (wM G a S) (fun r1 w1 => r1 = some (.int (F_M_shorter S).1) ∧ w1 = wM G a (F_M_shorter S).2) := by
  generalize hPost : (fun (r1 : Option Value) (w1 : va_W) => r1 = some (.int (F_M_shorter S).1) ∧ w1 = wM G a (F_M_shorter S).2) = Post
  have hq : Post (some (.int (F_M_shorter S).1)) (wM G a (F_M_shorter S).2) := by rw [← hPost]; exact ⟨rfl, rfl⟩
  clear hPost
  refine zM_of (by decide) (Nat.le_of_ble_eq_true rfl) ?_
  intro p e s m args below meth c C hlk hr hin
  refine z_aload_n C 1 d_M_shorter_0 rfl rfl ?_
  refine z_iconst C 0 2 d_M_shorter_1 rfl (by decide) ?_
  refine z_put C kf_M_28 kp_M 0 (wM G a (uM_thrown S 0)) 5 d_M_shorter_2 rfl rfl rfl (znr_i _) (zft_i _) (Nat.le_of_ble_eq_true rfl) (wM_put_thrown G a S 0) ?_
  refine z_aload_n C 6 d_M_shorter_5 rfl rfl ?_
  refine z_aload_n C 7 d_M_shorter_6 rfl rfl ?_
  refine z_goA C (z_V C kc_M_82 (c_M_all G l a (uM_thrown S 0)) (st := [.ref (a 0)]) 0 3 rfl rfl rfl rfl (Nat.le_of_ble_eq_true rfl) ⟨⟨Nat.le_of_ble_eq_true rfl, Nat.le_of_ble_eq_true rfl⟩, Nat.le_of_ble_eq_true rfl, Nat.le_of_ble_eq_true rfl⟩ d_M_shorter_7) [.int (F_M_all (uM_thrown S 0)), .ref (a 0)] 10 rfl rfl ?_
  refine z_put C kf_M_86 kp_M 0 (wM G a (uM_left (uM_thrown S 0) (F_M_all (uM_thrown S 0)))) 13 d_M_shorter_10 rfl rfl rfl (znr_i _) (zft_i _) (Nat.le_of_ble_eq_true rfl) (wM_put_left G a (uM_thrown S 0) (F_M_all (uM_thrown S 0))) ?_
  refine z_aload_n C 14 d_M_shorter_13 rfl rfl ?_
  refine z_aload_n C 15 d_M_shorter_14 rfl rfl ?_
  refine z_get C kf_M_86 0 (v := .int (F_M_all (uM_thrown S 0))) 18 d_M_shorter_15 rfl rfl rfl ?_
  refine z_goA C (z_V C kc_M_102 (c_M_stays G l a (uM_left (uM_thrown S 0) (F_M_all (uM_thrown S 0))) (F_M_all (uM_thrown S 0)) hn ht) (st := []) 0 3 rfl rfl rfl rfl (Nat.le_of_ble_eq_true rfl) ⟨⟨Nat.le_of_ble_eq_true rfl, Nat.le_of_ble_eq_true rfl⟩, Nat.le_of_ble_eq_true rfl, Nat.le_of_ble_eq_true rfl⟩ d_M_shorter_18) [.int (F_M_stays (uM_left (uM_thrown S 0) (F_M_all (uM_thrown S 0))) (F_M_all (uM_thrown S 0)))] 21 rfl rfl ?_
  refine z_istore_n C [(1, .int (F_M_stays (uM_left (uM_thrown S 0) (F_M_all (uM_thrown S 0))) (F_M_all (uM_thrown S 0)))), (0, .ref (a 0))] 22 d_M_shorter_21 rfl (by decide) rfl ?_
  refine z_lvs [1, 0] [(0, .ref (a 0)), (1, .int (F_M_stays (uM_left (uM_thrown S 0) (F_M_all (uM_thrown S 0))) (F_M_all (uM_thrown S 0))))] rfl ?_
  exact l_M_shorter_22 G l a C hlk hr _ (uM_left (uM_thrown S 0) (F_M_all (uM_thrown S 0))) (F_M_stays (uM_left (uM_thrown S 0) (F_M_all (uM_thrown S 0))) (F_M_all (uM_thrown S 0))) (Nat.lt_succ_self _) ⟨hn, ht⟩ (by rw [show F_M_shorter S = (L_M_shorter_22 ((if (F_M_stays (uM_left (uM_thrown S 0) (F_M_all (uM_thrown S 0))) (F_M_all (uM_thrown S 0))) = 0 then 0 else (sM_left (uM_left (uM_thrown S 0) (F_M_all (uM_thrown S 0)))).toBitVec.toNat + 1) + 1) (uM_left (uM_thrown S 0) (F_M_all (uM_thrown S 0))) (F_M_stays (uM_left (uM_thrown S 0) (F_M_all (uM_thrown S 0))) (F_M_all (uM_thrown S 0)))) from by rw [F_M_shorter]] at hq; exact hq)

def L_M_left_9 : Nat → SM → Int32 → Int32 → Int32 → Int32 × SM
  | 0, S, v1, v2, v3 => (0, S)
  | n + 1, S, v1, v2, v3 =>
    if (sM_parts S) ≤ v3 then
      ((-1), S)
    else
      if (((sM_left S) >>> (v3 &&& 31)) &&& 1) = 0 then
        (L_M_left_9 n S v1 v2 (v3 + 1))
      else
        if v2 = v1 then
          (v3, S)
        else
          (L_M_left_9 n S v1 (v2 + 1) (v3 + 1))
set_option maxRecDepth 100000 in
set_option maxHeartbeats 4000000 in
theorem l_M_left_9 (G : zG) (l : Launch) (a : Nat → Nat) {p : Program} {e : Env} {s : State} {m : MethodId} {args : Array Value} {below : List Frame} {meth : Method} {c : Code} {w0 : va_W} {Post : Option Value → va_W → Prop} (C : zC p s m args meth c b_M_left 4 N_M G (va_A w0 s.heap.size)) (hlk : meth.locks = false) (hr : meth.sig.returnType = some .int) :
    ∀ (n : Nat) (S : SM) (v1 : Int32) (v2 : Int32) (v3 : Int32), (Int32.toInt (sM_parts S) - Int32.toInt v3).toNat < n → Post (some (.int (L_M_left_9 n S v1 v2 v3).1)) (wM G a (L_M_left_9 n S v1 v2 v3).2) → zV p l e (zR 0 0) s m args below meth c 4 G (va_A w0 s.heap.size) (MQ below (zQ G w0 s.heap.size Post) args s 0 0 (va_A w0 s.heap.size)) 0 0 (wM G a S) 9 [(0, .ref (a 0)), (1, .int v1), (2, .int v2), (3, .int v3)] [] := by
  intro n
  induction n with
  | zero => intro S v1 v2 v3 h; exact absurd h (Nat.not_lt_zero _)
  | succ n ih =>
    intro S v1 v2 v3 hmu hq
    refine z_iload_n C 10 d_M_left_9 rfl rfl ?_
    refine z_aload_n C 11 d_M_left_10 rfl rfl ?_
    refine z_get C kf_M_65 0 (v := .int (sM_parts S)) 14 d_M_left_11 rfl rfl rfl ?_
    refine z_icmp_ge C 47 17 d_M_left_14 (by decide) rfl (fun c_14 => ?_) (fun c_14 => ?_)
    · refine z_iconst C (-1) 48 d_M_left_47 rfl (by decide) ?_
      exact z_iret C hlk hr d_M_left_48 (by rw [show L_M_left_9 (n + 1) S v1 v2 v3 = ((-1), S) from by rw [L_M_left_9, if_pos c_14]] at hq; exact hq)
    · refine z_aload_n C 18 d_M_left_17 rfl rfl ?_
      refine z_get C kf_M_86 0 (v := .int (sM_left S)) 21 d_M_left_18 rfl rfl rfl ?_
      refine z_iload_n C 22 d_M_left_21 rfl rfl ?_
      refine z_ishr C 23 d_M_left_22 rfl ?_
      refine z_iconst C 1 24 d_M_left_23 rfl (by decide) ?_
      refine z_iand C 25 d_M_left_24 rfl ?_
      refine z_if_ne C 31 28 d_M_left_25 (by decide) rfl (fun c_25 => ?_) (fun c_25 => ?_)
      · refine z_iload_n C 32 d_M_left_31 rfl rfl ?_
        refine z_iload_n C 33 d_M_left_32 rfl rfl ?_
        refine z_icmp_ne C 38 36 d_M_left_33 (by decide) rfl (fun c_33 => ?_) (fun c_33 => ?_)
        · refine z_iinc C (v2 + 1) [(2, .int (v2 + 1)), (0, .ref (a 0)), (1, .int v1), (3, .int v3)] 41 d_M_left_38 rfl (by decide) rfl rfl rfl ?_
          refine z_iinc C (v3 + 1) [(3, .int (v3 + 1)), (2, .int (v2 + 1)), (0, .ref (a 0)), (1, .int v1)] 44 d_M_left_41 rfl (by decide) rfl rfl rfl ?_
          refine z_goto C 9 d_M_left_44 (by decide) ?_
          refine z_lvs [2, 3, 1, 0] [(0, .ref (a 0)), (1, .int v1), (2, .int (v2 + 1)), (3, .int (v3 + 1))] rfl ?_
          exact ih S v1 (v2 + 1) (v3 + 1) (zdec c_14 hmu) (by rw [show L_M_left_9 (n + 1) S v1 v2 v3 = (L_M_left_9 n S v1 (v2 + 1) (v3 + 1)) from by rw [L_M_left_9, if_neg c_14, if_neg c_25, if_neg c_33]] at hq; exact hq)
        · refine z_iload_n C 37 d_M_left_36 rfl rfl ?_
          exact z_iret C hlk hr d_M_left_37 (by rw [show L_M_left_9 (n + 1) S v1 v2 v3 = (v3, S) from by rw [L_M_left_9, if_neg c_14, if_neg c_25, if_pos c_33]] at hq; exact hq)
      · refine z_goto C 41 d_M_left_28 (by decide) ?_
        refine z_iinc C (v3 + 1) [(3, .int (v3 + 1)), (0, .ref (a 0)), (1, .int v1), (2, .int v2)] 44 d_M_left_41 rfl (by decide) rfl rfl rfl ?_
        refine z_goto C 9 d_M_left_44 (by decide) ?_
        refine z_lvs [1, 2, 3, 0] [(0, .ref (a 0)), (1, .int v1), (2, .int v2), (3, .int (v3 + 1))] rfl ?_
        exact ih S v1 v2 (v3 + 1) (zdec c_14 hmu) (by rw [show L_M_left_9 (n + 1) S v1 v2 v3 = (L_M_left_9 n S v1 v2 (v3 + 1)) from by rw [L_M_left_9, if_neg c_14, if_pos c_25]] at hq; exact hq)
def F_M_left (S : SM) (x1 : Int32) : Int32 × SM :=
  (L_M_left_9 ((Int32.toInt (sM_parts (uM_thrown S 0)) - Int32.toInt 0).toNat + 1) (uM_thrown S 0) x1 0 0)
set_option maxRecDepth 100000 in
set_option maxHeartbeats 4000000 in
theorem c_M_left (G : zG) (l : Launch) (a : Nat → Nat) (S : SM) (x1 : Int32)  : zM G l y_M_left b_M_left 4 (some .int) (zR 0 0) [.ref (a 0), .int x1] (wM G a S) (fun r1 w1 => r1 = some (.int (F_M_left S x1).1) ∧ w1 = wM G a (F_M_left S x1).2) := by
  generalize hPost : (fun (r1 : Option Value) (w1 : va_W) => r1 = some (.int (F_M_left S x1).1) ∧ w1 = wM G a (F_M_left S x1).2) = Post
  have hq : Post (some (.int (F_M_left S x1).1)) (wM G a (F_M_left S x1).2) := by rw [← hPost]; exact ⟨rfl, rfl⟩
  clear hPost
  refine zM_of (by decide) (Nat.le_of_ble_eq_true rfl) ?_
  intro p e s m args below meth c C hlk hr hin
  refine z_aload_n C 1 d_M_left_0 rfl rfl ?_
  refine z_iconst C 0 2 d_M_left_1 rfl (by decide) ?_
  refine z_put C kf_M_28 kp_M 0 (wM G a (uM_thrown S 0)) 5 d_M_left_2 rfl rfl rfl (znr_i _) (zft_i _) (Nat.le_of_ble_eq_true rfl) (wM_put_thrown G a S 0) ?_
  refine z_iconst C 0 6 d_M_left_5 rfl (by decide) ?_
  refine z_istore_n C [(2, .int 0), (0, .ref (a 0)), (1, .int x1)] 7 d_M_left_6 rfl (by decide) rfl ?_
  refine z_iconst C 0 8 d_M_left_7 rfl (by decide) ?_
  refine z_istore_n C [(3, .int 0), (2, .int 0), (0, .ref (a 0)), (1, .int x1)] 9 d_M_left_8 rfl (by decide) rfl ?_
  refine z_lvs [2, 3, 1, 0] [(0, .ref (a 0)), (1, .int x1), (2, .int 0), (3, .int 0)] rfl ?_
  exact l_M_left_9 G l a C hlk hr _ (uM_thrown S 0) x1 0 0 (Nat.lt_succ_self _) (by rw [show F_M_left S x1 = (L_M_left_9 ((Int32.toInt (sM_parts (uM_thrown S 0)) - Int32.toInt 0).toNat + 1) (uM_thrown S 0) x1 0 0) from by rw [F_M_left]] at hq; exact hq)

def L_M_minimal_16 : Nat → SM → Int32 → Int32 → Int32 × SM
  | 0, S, v1, v2 => (0, S)
  | n + 1, S, v1, v2 =>
    if (sM_parts S) ≤ v2 then
      (v1, S)
    else
      if v1 = 0 then
        (L_M_minimal_16 n S 0 (v2 + 1))
      else
        if (((sM_left S) >>> (v2 &&& 31)) &&& 1) = 0 then
          (L_M_minimal_16 n S 1 (v2 + 1))
        else
          if (F_M_stays S ((sM_left S) &&& ((1 <<< (v2 &&& 31)) ^^^ (-1)))) = 0 then
            (L_M_minimal_16 n S 1 (v2 + 1))
          else
            (L_M_minimal_16 n S 0 (v2 + 1))
set_option maxRecDepth 100000 in
set_option maxHeartbeats 4000000 in
theorem l_M_minimal_16 (G : zG) (l : Launch) (a : Nat → Nat) {p : Program} {e : Env} {s : State} {m : MethodId} {args : Array Value} {below : List Frame} {meth : Method} {c : Code} {w0 : va_W} {Post : Option Value → va_W → Prop} (C : zC p s m args meth c b_M_minimal 3 N_M G (va_A w0 s.heap.size)) (hlk : meth.locks = false) (hr : meth.sig.returnType = some .boolean) :
    ∀ (n : Nat) (S : SM) (v1 : Int32) (v2 : Int32), (Int32.toInt (sM_parts S) - Int32.toInt v2).toNat < n → (zr (sM_needed S) 0 6 ∧ zr (sM_together S) 0 6 ∧ (v1 = 0 ∨ v1 = 1)) → Post (some (.int (L_M_minimal_16 n S v1 v2).1)) (wM G a (L_M_minimal_16 n S v1 v2).2) → zV p l e (zR 1 24) s m args below meth c 3 G (va_A w0 s.heap.size) (MQ below (zQ G w0 s.heap.size Post) args s 0 0 (va_A w0 s.heap.size)) 0 0 (wM G a S) 16 [(0, .ref (a 0)), (1, .int v1), (2, .int v2)] [] := by
  intro n
  induction n with
  | zero => intro S v1 v2 h; exact absurd h (Nat.not_lt_zero _)
  | succ n ih =>
    intro S v1 v2 hmu hpre hq
    refine z_iload_n C 17 d_M_minimal_16 rfl rfl ?_
    refine z_aload_n C 18 d_M_minimal_17 rfl rfl ?_
    refine z_get C kf_M_65 0 (v := .int (sM_parts S)) 21 d_M_minimal_18 rfl rfl rfl ?_
    refine z_icmp_ge C 68 24 d_M_minimal_21 (by decide) rfl (fun c_21 => ?_) (fun c_21 => ?_)
    · refine z_iload_n C 69 d_M_minimal_68 rfl rfl ?_
      exact z_zret C hlk (bi_nar hpre.2.2) hr d_M_minimal_69 (by rw [show L_M_minimal_16 (n + 1) S v1 v2 = (v1, S) from by rw [L_M_minimal_16, if_pos c_21]] at hq; exact hq)
    · refine z_iload_n C 25 d_M_minimal_24 rfl rfl ?_
      refine z_if_eq C 60 28 d_M_minimal_25 (by decide) rfl (fun c_25 => ?_) (fun c_25 => ?_)
      · refine z_iconst C 0 61 d_M_minimal_60 rfl (by decide) ?_
        refine z_istore_n C [(1, .int 0), (0, .ref (a 0)), (2, .int v2)] 62 d_M_minimal_61 rfl (by decide) rfl ?_
        refine z_iinc C (v2 + 1) [(2, .int (v2 + 1)), (1, .int 0), (0, .ref (a 0))] 65 d_M_minimal_62 rfl (by decide) rfl rfl rfl ?_
        refine z_goto C 16 d_M_minimal_65 (by decide) ?_
        refine z_lvs [2, 1, 0] [(0, .ref (a 0)), (1, .int 0), (2, .int (v2 + 1))] rfl ?_
        exact ih S 0 (v2 + 1) (zdec c_21 hmu) ⟨hpre.1, hpre.2.1, (by first | exact Or.inl rfl | exact Or.inr rfl)⟩ (by rw [show L_M_minimal_16 (n + 1) S v1 v2 = (L_M_minimal_16 n S 0 (v2 + 1)) from by rw [L_M_minimal_16, if_neg c_21, if_pos c_25]] at hq; exact hq)
      · refine z_aload_n C 29 d_M_minimal_28 rfl rfl ?_
        refine z_get C kf_M_86 0 (v := .int (sM_left S)) 32 d_M_minimal_29 rfl rfl rfl ?_
        refine z_iload_n C 33 d_M_minimal_32 rfl rfl ?_
        refine z_ishr C 34 d_M_minimal_33 rfl ?_
        refine z_iconst C 1 35 d_M_minimal_34 rfl (by decide) ?_
        refine z_iand C 36 d_M_minimal_35 rfl ?_
        refine z_if_eq C 56 39 d_M_minimal_36 (by decide) rfl (fun c_36 => ?_) (fun c_36 => ?_)
        · refine z_iconst C 1 57 d_M_minimal_56 rfl (by decide) ?_
          refine z_goto C 61 d_M_minimal_57 (by decide) ?_
          refine z_istore_n C [(1, .int 1), (0, .ref (a 0)), (2, .int v2)] 62 d_M_minimal_61 rfl (by decide) rfl ?_
          refine z_iinc C (v2 + 1) [(2, .int (v2 + 1)), (1, .int 1), (0, .ref (a 0))] 65 d_M_minimal_62 rfl (by decide) rfl rfl rfl ?_
          refine z_goto C 16 d_M_minimal_65 (by decide) ?_
          refine z_lvs [2, 1, 0] [(0, .ref (a 0)), (1, .int 1), (2, .int (v2 + 1))] rfl ?_
          exact ih S 1 (v2 + 1) (zdec c_21 hmu) ⟨hpre.1, hpre.2.1, (by first | exact Or.inl rfl | exact Or.inr rfl)⟩ (by rw [show L_M_minimal_16 (n + 1) S v1 v2 = (L_M_minimal_16 n S 1 (v2 + 1)) from by rw [L_M_minimal_16, if_neg c_21, if_neg c_25, if_pos c_36]] at hq; exact hq)
        · refine z_aload_n C 40 d_M_minimal_39 rfl rfl ?_
          refine z_aload_n C 41 d_M_minimal_40 rfl rfl ?_
          refine z_get C kf_M_86 0 (v := .int (sM_left S)) 44 d_M_minimal_41 rfl rfl rfl ?_
          refine z_iconst C 1 45 d_M_minimal_44 rfl (by decide) ?_
          refine z_iload_n C 46 d_M_minimal_45 rfl rfl ?_
          refine z_ishl C 47 d_M_minimal_46 rfl ?_
          refine z_iconst C (-1) 48 d_M_minimal_47 rfl (by decide) ?_
          refine z_ixor C 49 d_M_minimal_48 rfl ?_
          refine z_iand C 50 d_M_minimal_49 rfl ?_
          refine z_goA C (z_V C kc_M_102 (c_M_stays G l a S ((sM_left S) &&& ((1 <<< (v2 &&& 31)) ^^^ (-1))) hpre.1 hpre.2.1) (st := []) 0 3 rfl rfl rfl rfl (Nat.le_of_ble_eq_true rfl) ⟨⟨Nat.le_of_ble_eq_true rfl, Nat.le_of_ble_eq_true rfl⟩, Nat.le_of_ble_eq_true rfl, Nat.le_of_ble_eq_true rfl⟩ d_M_minimal_50) [.int (F_M_stays S ((sM_left S) &&& ((1 <<< (v2 &&& 31)) ^^^ (-1))))] 53 rfl rfl ?_
          refine z_if_ne C 60 56 d_M_minimal_53 (by decide) rfl (fun c_53 => ?_) (fun c_53 => ?_)
          · refine z_iconst C 0 61 d_M_minimal_60 rfl (by decide) ?_
            refine z_istore_n C [(1, .int 0), (0, .ref (a 0)), (2, .int v2)] 62 d_M_minimal_61 rfl (by decide) rfl ?_
            refine z_iinc C (v2 + 1) [(2, .int (v2 + 1)), (1, .int 0), (0, .ref (a 0))] 65 d_M_minimal_62 rfl (by decide) rfl rfl rfl ?_
            refine z_goto C 16 d_M_minimal_65 (by decide) ?_
            refine z_lvs [2, 1, 0] [(0, .ref (a 0)), (1, .int 0), (2, .int (v2 + 1))] rfl ?_
            exact ih S 0 (v2 + 1) (zdec c_21 hmu) ⟨hpre.1, hpre.2.1, (by first | exact Or.inl rfl | exact Or.inr rfl)⟩ (by rw [show L_M_minimal_16 (n + 1) S v1 v2 = (L_M_minimal_16 n S 0 (v2 + 1)) from by rw [L_M_minimal_16, if_neg c_21, if_neg c_25, if_neg c_36, if_neg c_53]] at hq; exact hq)
          · refine z_iconst C 1 57 d_M_minimal_56 rfl (by decide) ?_
            refine z_goto C 61 d_M_minimal_57 (by decide) ?_
            refine z_istore_n C [(1, .int 1), (0, .ref (a 0)), (2, .int v2)] 62 d_M_minimal_61 rfl (by decide) rfl ?_
            refine z_iinc C (v2 + 1) [(2, .int (v2 + 1)), (1, .int 1), (0, .ref (a 0))] 65 d_M_minimal_62 rfl (by decide) rfl rfl rfl ?_
            refine z_goto C 16 d_M_minimal_65 (by decide) ?_
            refine z_lvs [2, 1, 0] [(0, .ref (a 0)), (1, .int 1), (2, .int (v2 + 1))] rfl ?_
            exact ih S 1 (v2 + 1) (zdec c_21 hmu) ⟨hpre.1, hpre.2.1, (by first | exact Or.inl rfl | exact Or.inr rfl)⟩ (by rw [show L_M_minimal_16 (n + 1) S v1 v2 = (L_M_minimal_16 n S 1 (v2 + 1)) from by rw [L_M_minimal_16, if_neg c_21, if_neg c_25, if_neg c_36, if_pos c_53]] at hq; exact hq)
def F_M_minimal (S : SM)  : Int32 × SM :=
  (L_M_minimal_16 ((Int32.toInt (sM_parts (uM_thrown S 0)) - Int32.toInt 0).toNat + 1) (uM_thrown S 0) (F_M_stays (uM_thrown S 0) (sM_left S)) 0)
set_option maxRecDepth 100000 in
set_option maxHeartbeats 4000000 in
theorem c_M_minimal (G : zG) (l : Launch) (a : Nat → Nat) (S : SM)  (hn : zr (sM_needed S) 0 6) (ht : zr (sM_together S) 0 6) : zM G l y_M_minimal b_M_minimal 3 (some .boolean) (zR 1 24) [.ref (a 0)] (wM G a S) (fun r1 w1 => r1 = some (.int (F_M_minimal S).1) ∧ w1 = wM G a (F_M_minimal S).2) := by
  generalize hPost : (fun (r1 : Option Value) (w1 : va_W) => r1 = some (.int (F_M_minimal S).1) ∧ w1 = wM G a (F_M_minimal S).2) = Post
  have hq : Post (some (.int (F_M_minimal S).1)) (wM G a (F_M_minimal S).2) := by rw [← hPost]; exact ⟨rfl, rfl⟩
  clear hPost
  refine zM_of (by decide) (Nat.le_of_ble_eq_true rfl) ?_
  intro p e s m args below meth c C hlk hr hin
  refine z_aload_n C 1 d_M_minimal_0 rfl rfl ?_
  refine z_iconst C 0 2 d_M_minimal_1 rfl (by decide) ?_
  refine z_put C kf_M_28 kp_M 0 (wM G a (uM_thrown S 0)) 5 d_M_minimal_2 rfl rfl rfl (znr_i _) (zft_i _) (Nat.le_of_ble_eq_true rfl) (wM_put_thrown G a S 0) ?_
  refine z_aload_n C 6 d_M_minimal_5 rfl rfl ?_
  refine z_aload_n C 7 d_M_minimal_6 rfl rfl ?_
  refine z_get C kf_M_86 0 (v := .int (sM_left S)) 10 d_M_minimal_7 rfl rfl rfl ?_
  refine z_goA C (z_V C kc_M_102 (c_M_stays G l a (uM_thrown S 0) (sM_left S) hn ht) (st := []) 0 3 rfl rfl rfl rfl (Nat.le_of_ble_eq_true rfl) ⟨⟨Nat.le_of_ble_eq_true rfl, Nat.le_of_ble_eq_true rfl⟩, Nat.le_of_ble_eq_true rfl, Nat.le_of_ble_eq_true rfl⟩ d_M_minimal_10) [.int (F_M_stays (uM_thrown S 0) (sM_left S))] 13 rfl rfl ?_
  refine z_istore_n C [(1, .int (F_M_stays (uM_thrown S 0) (sM_left S))), (0, .ref (a 0))] 14 d_M_minimal_13 rfl (by decide) rfl ?_
  refine z_iconst C 0 15 d_M_minimal_14 rfl (by decide) ?_
  refine z_istore_n C [(2, .int 0), (1, .int (F_M_stays (uM_thrown S 0) (sM_left S))), (0, .ref (a 0))] 16 d_M_minimal_15 rfl (by decide) rfl ?_
  refine z_lvs [2, 1, 0] [(0, .ref (a 0)), (1, .int (F_M_stays (uM_thrown S 0) (sM_left S))), (2, .int 0)] rfl ?_
  exact l_M_minimal_16 G l a C hlk hr _ (uM_thrown S 0) (F_M_stays (uM_thrown S 0) (sM_left S)) 0 (Nat.lt_succ_self _) ⟨hn, ht, bi_stays _ _⟩ (by rw [show F_M_minimal S = (L_M_minimal_16 ((Int32.toInt (sM_parts (uM_thrown S 0)) - Int32.toInt 0).toNat + 1) (uM_thrown S 0) (F_M_stays (uM_thrown S 0) (sM_left S)) 0) from by rw [F_M_minimal]] at hq; exact hq)
