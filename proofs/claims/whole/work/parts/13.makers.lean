
def K0 : SK := (fun _ => 0, fun _ => 0, fun _ => 0, 0, -1, 0, 0)
def R0 : SR := (fun _ => 0, 0)
def D0 (x : Int64) : SD := (x, K0, K0, K0, R0, R0, 0)
def M0 (x : Int64) : SM := (0, x, 0, -1, 0, fun _ => 0, fun _ => 0, 0, 0, fun _ => 0, 0)

set_option maxRecDepth 100000 in
set_option maxHeartbeats 4000000 in
theorem c_K_init (G : zG) (l : Launch) (h : Nat)  : zM G l y_K_init b_K_init 1 none (zRn 1 20 3 231) [.ref h] ([(h, .inr (0, [.null, .null, .null, .long 0, .int 0, .int 0, .int 0]))] : va_W) (fun r1 w1 => r1 = none ∧ ∃ a : Nat → Nat, a 0 = h ∧ w1 = wK G a K0) := by
  refine zM_of (by decide) (Nat.le_of_ble_eq_true rfl) ?_
  intro p e s m args below meth c C hlk hr hin
  refine z_aload_n C 1 d_K_init_0 rfl rfl ?_
  refine z_obj C 4 d_K_init_1 rfl ko_K_3 ko_i ko_c (Nat.le_of_ble_eq_true rfl) (Nat.le_of_ble_eq_true rfl) ?_
  refine z_aload_n C 5 d_K_init_4 rfl rfl ?_
  refine z_bipush C 63 7 d_K_init_5 rfl (by decide) ?_
  refine z_newi C 9 d_K_init_7 rfl rfl ka_int (by decide) (by decide) (by decide) (Nat.le_of_ble_eq_true rfl) (Nat.le_of_ble_eq_true rfl) (fun q1 => z_weq (w' := ([(h, .inr (0, [.null, .null, .null, .long 0, .int 0, .int 0, .int 0])), (q1, .inl (G.2 0, 63, .inl (fun _ => 0)))] : va_W)) rfl ?_)
  refine z_putF C hin kf_K_9 kp_K 0 ([(h, .inr (0, [.ref q1, .null, .null, .long 0, .int 0, .int 0, .int 0])), (q1, .inl (G.2 0, 63, .inl (fun _ => 0)))] : va_W) 12 d_K_init_9 rfl rfl rfl rfl rfl rfl (Nat.le_of_ble_eq_true rfl) rfl ?_
  refine z_aload_n C 13 d_K_init_12 rfl rfl ?_
  refine z_sipush C 147 16 d_K_init_13 rfl (by decide) ?_
  refine z_newi C 18 d_K_init_16 rfl rfl ka_int (by decide) (by decide) (by decide) (Nat.le_of_ble_eq_true rfl) (Nat.le_of_ble_eq_true rfl) (fun q2 => z_weq (w' := ([(h, .inr (0, [.ref q1, .null, .null, .long 0, .int 0, .int 0, .int 0])), (q1, .inl (G.2 0, 63, .inl (fun _ => 0))), (q2, .inl (G.2 0, 147, .inl (fun _ => 0)))] : va_W)) rfl ?_)
  refine z_putF C hin kf_K_15 kp_K 0 ([(h, .inr (0, [.ref q1, .ref q2, .null, .long 0, .int 0, .int 0, .int 0])), (q1, .inl (G.2 0, 63, .inl (fun _ => 0))), (q2, .inl (G.2 0, 147, .inl (fun _ => 0)))] : va_W) 21 d_K_init_18 rfl rfl rfl rfl rfl rfl (Nat.le_of_ble_eq_true rfl) rfl ?_
  refine z_aload_n C 22 d_K_init_21 rfl rfl ?_
  refine z_bipush C 21 24 d_K_init_22 rfl (by decide) ?_
  refine z_newi C 26 d_K_init_24 rfl rfl ka_int (by decide) (by decide) (by decide) (Nat.le_of_ble_eq_true rfl) (Nat.le_of_ble_eq_true rfl) (fun q3 => z_weq (w' := ([(h, .inr (0, [.ref q1, .ref q2, .null, .long 0, .int 0, .int 0, .int 0])), (q1, .inl (G.2 0, 63, .inl (fun _ => 0))), (q2, .inl (G.2 0, 147, .inl (fun _ => 0))), (q3, .inl (G.2 0, 21, .inl (fun _ => 0)))] : va_W)) rfl ?_)
  refine z_putF C hin kf_K_18 kp_K 0 ([(h, .inr (0, [.ref q1, .ref q2, .ref q3, .long 0, .int 0, .int 0, .int 0])), (q1, .inl (G.2 0, 63, .inl (fun _ => 0))), (q2, .inl (G.2 0, 147, .inl (fun _ => 0))), (q3, .inl (G.2 0, 21, .inl (fun _ => 0)))] : va_W) 29 d_K_init_26 rfl rfl rfl rfl rfl rfl (Nat.le_of_ble_eq_true rfl) rfl ?_
  refine z_aload_n C 30 d_K_init_29 rfl rfl ?_
  refine z_lconst C 0 31 d_K_init_30 rfl (by decide) ?_
  refine z_put C kf_K_21 kp_K 0 ([(h, .inr (0, [.ref q1, .ref q2, .ref q3, .long 0, .int 0, .int 0, .int 0])), (q1, .inl (G.2 0, 63, .inl (fun _ => 0))), (q2, .inl (G.2 0, 147, .inl (fun _ => 0))), (q3, .inl (G.2 0, 21, .inl (fun _ => 0)))] : va_W) 34 d_K_init_31 rfl rfl rfl (znr_l _) (zft_l _) (Nat.le_of_ble_eq_true rfl) rfl ?_
  refine z_aload_n C 35 d_K_init_34 rfl rfl ?_
  refine z_iconst C (-1) 36 d_K_init_35 rfl (by decide) ?_
  refine z_put C kf_K_25 kp_K 0 ([(h, .inr (0, [.ref q1, .ref q2, .ref q3, .long 0, .int (-1), .int 0, .int 0])), (q1, .inl (G.2 0, 63, .inl (fun _ => 0))), (q2, .inl (G.2 0, 147, .inl (fun _ => 0))), (q3, .inl (G.2 0, 21, .inl (fun _ => 0)))] : va_W) 39 d_K_init_36 rfl rfl rfl (znr_i _) (zft_i _) (Nat.le_of_ble_eq_true rfl) rfl ?_
  refine z_aload_n C 40 d_K_init_39 rfl rfl ?_
  refine z_iconst C 0 41 d_K_init_40 rfl (by decide) ?_
  refine z_put C kf_K_29 kp_K 0 ([(h, .inr (0, [.ref q1, .ref q2, .ref q3, .long 0, .int (-1), .int 0, .int 0])), (q1, .inl (G.2 0, 63, .inl (fun _ => 0))), (q2, .inl (G.2 0, 147, .inl (fun _ => 0))), (q3, .inl (G.2 0, 21, .inl (fun _ => 0)))] : va_W) 44 d_K_init_41 rfl rfl rfl (znr_i _) (zft_i _) (Nat.le_of_ble_eq_true rfl) rfl ?_
  refine z_aload_n C 45 d_K_init_44 rfl rfl ?_
  refine z_iconst C 0 46 d_K_init_45 rfl (by decide) ?_
  refine z_put C kf_K_32 kp_K 0 ([(h, .inr (0, [.ref q1, .ref q2, .ref q3, .long 0, .int (-1), .int 0, .int 0])), (q1, .inl (G.2 0, 63, .inl (fun _ => 0))), (q2, .inl (G.2 0, 147, .inl (fun _ => 0))), (q3, .inl (G.2 0, 21, .inl (fun _ => 0)))] : va_W) 49 d_K_init_46 rfl rfl rfl (znr_i _) (zft_i _) (Nat.le_of_ble_eq_true rfl) rfl ?_
  exact z_vret C hlk hr d_K_init_49 ⟨rfl, fun i => if i = 0 then h else if i = 1 then q1 else if i = 2 then q2 else q3, rfl, rfl⟩

set_option maxRecDepth 100000 in
set_option maxHeartbeats 4000000 in
theorem c_R_init (G : zG) (l : Launch) (h : Nat)  : zM G l y_R_init b_R_init 1 none (zRn 1 20 1 6) [.ref h] ([(h, .inr (1, [.null, .int 0]))] : va_W) (fun r1 w1 => r1 = none ∧ ∃ a : Nat → Nat, a 0 = h ∧ w1 = wR G a R0) := by
  refine zM_of (by decide) (Nat.le_of_ble_eq_true rfl) ?_
  intro p e s m args below meth c C hlk hr hin
  refine z_aload_n C 1 d_R_init_0 rfl rfl ?_
  refine z_obj C 4 d_R_init_1 rfl ko_R_3 ko_i ko_c (Nat.le_of_ble_eq_true rfl) (Nat.le_of_ble_eq_true rfl) ?_
  refine z_aload_n C 5 d_R_init_4 rfl rfl ?_
  refine z_bipush C 6 7 d_R_init_5 rfl (by decide) ?_
  refine z_newi C 9 d_R_init_7 rfl rfl ka_int (by decide) (by decide) (by decide) (Nat.le_of_ble_eq_true rfl) (Nat.le_of_ble_eq_true rfl) (fun q1 => z_weq (w' := ([(h, .inr (1, [.null, .int 0])), (q1, .inl (G.2 0, 6, .inl (fun _ => 0)))] : va_W)) rfl ?_)
  refine z_putF C hin kf_R_9 kp_R 0 ([(h, .inr (1, [.ref q1, .int 0])), (q1, .inl (G.2 0, 6, .inl (fun _ => 0)))] : va_W) 12 d_R_init_9 rfl rfl rfl rfl rfl rfl (Nat.le_of_ble_eq_true rfl) rfl ?_
  refine z_aload_n C 13 d_R_init_12 rfl rfl ?_
  refine z_iconst C 0 14 d_R_init_13 rfl (by decide) ?_
  refine z_put C kf_R_15 kp_R 0 ([(h, .inr (1, [.ref q1, .int 0])), (q1, .inl (G.2 0, 6, .inl (fun _ => 0)))] : va_W) 17 d_R_init_14 rfl rfl rfl (znr_i _) (zft_i _) (Nat.le_of_ble_eq_true rfl) rfl ?_
  exact z_vret C hlk hr d_R_init_17 ⟨rfl, fun i => if i = 0 then h else q1, rfl, rfl⟩

set_option maxRecDepth 100000 in
set_option maxHeartbeats 4000000 in
theorem c_M_init (G : zG) (l : Launch) (h : Nat) (x1 : Int64) : zM G l y_M_init b_M_init 3 none (zRn 1 20 3 579) [.ref h, .long x1] ([(h, .inr (3, [.int 0, .long 0, .long 0, .int 0, .int 0, .null, .null, .int 0, .int 0, .null, .int 0]))] : va_W) (fun r1 w1 => r1 = none ∧ ∃ a : Nat → Nat, a 0 = h ∧ w1 = wM G a (M0 x1)) := by
  refine zM_of (by decide) (Nat.le_of_ble_eq_true rfl) ?_
  intro p e s m args below meth c C hlk hr hin
  refine z_aload_n C 1 d_M_init_0 rfl rfl ?_
  refine z_obj C 4 d_M_init_1 rfl ko_M_1 ko_i ko_c (Nat.le_of_ble_eq_true rfl) (Nat.le_of_ble_eq_true rfl) ?_
  refine z_aload_n C 5 d_M_init_4 rfl rfl ?_
  refine z_iconst C (-1) 6 d_M_init_5 rfl (by decide) ?_
  refine z_put C kf_M_9 kp_M 0 ([(h, .inr (3, [.int 0, .long 0, .long 0, .int (-1), .int 0, .null, .null, .int 0, .int 0, .null, .int 0]))] : va_W) 9 d_M_init_6 rfl rfl rfl (znr_i _) (zft_i _) (Nat.le_of_ble_eq_true rfl) rfl ?_
  refine z_aload_n C 10 d_M_init_9 rfl rfl ?_
  refine z_sipush C 189 13 d_M_init_10 rfl (by decide) ?_
  refine z_newi C 15 d_M_init_13 rfl rfl ka_int (by decide) (by decide) (by decide) (Nat.le_of_ble_eq_true rfl) (Nat.le_of_ble_eq_true rfl) (fun q1 => z_weq (w' := ([(h, .inr (3, [.int 0, .long 0, .long 0, .int (-1), .int 0, .null, .null, .int 0, .int 0, .null, .int 0])), (q1, .inl (G.2 0, 189, .inl (fun _ => 0)))] : va_W)) rfl ?_)
  refine z_putF C hin kf_M_13 kp_M 0 ([(h, .inr (3, [.int 0, .long 0, .long 0, .int (-1), .int 0, .ref q1, .null, .int 0, .int 0, .null, .int 0])), (q1, .inl (G.2 0, 189, .inl (fun _ => 0)))] : va_W) 18 d_M_init_15 rfl rfl rfl rfl rfl rfl (Nat.le_of_ble_eq_true rfl) rfl ?_
  refine z_aload_n C 19 d_M_init_18 rfl rfl ?_
  refine z_sipush C 378 22 d_M_init_19 rfl (by decide) ?_
  refine z_newb C 24 d_M_init_22 rfl rfl ka_byte (by decide) (by decide) (by decide) (Nat.le_of_ble_eq_true rfl) (Nat.le_of_ble_eq_true rfl) (fun q2 => z_weq (w' := ([(h, .inr (3, [.int 0, .long 0, .long 0, .int (-1), .int 0, .ref q1, .null, .int 0, .int 0, .null, .int 0])), (q1, .inl (G.2 0, 189, .inl (fun _ => 0))), (q2, .inl (G.2 1, 378, .inl (fun _ => 0)))] : va_W)) rfl ?_)
  refine z_putF C hin kf_M_17 kp_M 0 ([(h, .inr (3, [.int 0, .long 0, .long 0, .int (-1), .int 0, .ref q1, .ref q2, .int 0, .int 0, .null, .int 0])), (q1, .inl (G.2 0, 189, .inl (fun _ => 0))), (q2, .inl (G.2 1, 378, .inl (fun _ => 0)))] : va_W) 27 d_M_init_24 rfl rfl rfl rfl rfl rfl (Nat.le_of_ble_eq_true rfl) rfl ?_
  refine z_aload_n C 28 d_M_init_27 rfl rfl ?_
  refine z_bipush C 12 30 d_M_init_28 rfl (by decide) ?_
  refine z_newi C 32 d_M_init_30 rfl rfl ka_int (by decide) (by decide) (by decide) (Nat.le_of_ble_eq_true rfl) (Nat.le_of_ble_eq_true rfl) (fun q3 => z_weq (w' := ([(h, .inr (3, [.int 0, .long 0, .long 0, .int (-1), .int 0, .ref q1, .ref q2, .int 0, .int 0, .null, .int 0])), (q1, .inl (G.2 0, 189, .inl (fun _ => 0))), (q2, .inl (G.2 1, 378, .inl (fun _ => 0))), (q3, .inl (G.2 0, 12, .inl (fun _ => 0)))] : va_W)) rfl ?_)
  refine z_putF C hin kf_M_21 kp_M 0 ([(h, .inr (3, [.int 0, .long 0, .long 0, .int (-1), .int 0, .ref q1, .ref q2, .int 0, .int 0, .ref q3, .int 0])), (q1, .inl (G.2 0, 189, .inl (fun _ => 0))), (q2, .inl (G.2 1, 378, .inl (fun _ => 0))), (q3, .inl (G.2 0, 12, .inl (fun _ => 0)))] : va_W) 35 d_M_init_32 rfl rfl rfl rfl rfl rfl (Nat.le_of_ble_eq_true rfl) rfl ?_
  refine z_aload_n C 36 d_M_init_35 rfl rfl ?_
  refine z_lload_n C 37 d_M_init_36 rfl rfl ?_
  refine z_putF C hin kf_M_24 kp_M 0 ([(h, .inr (3, [.int 0, .long x1, .long 0, .int (-1), .int 0, .ref q1, .ref q2, .int 0, .int 0, .ref q3, .int 0])), (q1, .inl (G.2 0, 189, .inl (fun _ => 0))), (q2, .inl (G.2 1, 378, .inl (fun _ => 0))), (q3, .inl (G.2 0, 12, .inl (fun _ => 0)))] : va_W) 40 d_M_init_37 rfl rfl rfl rfl (znr_l _) (zft_l _) (Nat.le_of_ble_eq_true rfl) rfl ?_
  exact z_vret C hlk hr d_M_init_40 ⟨rfl, fun i => if i = 0 then h else if i = 1 then q1 else if i = 2 then q2 else q3, rfl, rfl⟩

set_option maxRecDepth 100000 in
set_option maxHeartbeats 4000000 in
theorem c_D_init (G : zG) (l : Launch) (h : Nat) (x1 : Int64) : zM G l y_D_init b_D_init 3 none (zRn 2 40 16 730) [.ref h, .long x1] [(h, .inr (2, [.long 0, .null, .null, .null, .null, .null, .int 0]))] (fun r1 w1 => r1 = none ∧ ∃ a : Nat → Nat, a 0 = h ∧ w1 = wD G a (D0 x1)) := by
  refine zM_of (by decide) (Nat.le_of_ble_eq_true rfl) ?_
  intro p e s m args below meth c C hlk hr hin
  refine z_aload_n C 1 d_D_init_0 rfl rfl ?_
  refine z_obj C 4 d_D_init_1 rfl ko_D_3 ko_i ko_c (Nat.le_of_ble_eq_true rfl) (Nat.le_of_ble_eq_true rfl) ?_
  refine z_aload_n C 5 d_D_init_4 rfl rfl ?_
  refine z_new C (fs := [.null, .null, .null, .long 0, .int 0, .int 0, .int 0]) 8 d_D_init_5 rfl (ci := 0) rfl kw_K kt_K kl_D_9 ki_K kn_K (by decide) (Nat.le_of_ble_eq_true rfl) (Nat.le_of_ble_eq_true rfl) (fun q1 => ?_)
  refine z_dup C 9 d_D_init_8 rfl rfl ?_
  refine z_go C (z_IN C kc_D_11 (c_K_init G l q1) (As := []) (st := [.ref q1, .ref h]) rfl rfl (Nat.le_of_ble_eq_true rfl) ⟨⟨Nat.le_of_ble_eq_true rfl, Nat.le_of_ble_eq_true rfl⟩, Nat.le_of_ble_eq_true rfl, Nat.le_of_ble_eq_true rfl⟩ d_D_init_9) [1] [0] ([(h, .inr (2, [.long 0, .null, .null, .null, .null, .null, .int 0]))] : va_W) 12 rfl rfl rfl rfl rfl (by decide) (fun r w' hw => ?_)
  obtain ⟨rfl, a1, rfl, rfl⟩ := hw
  refine z_weq (w' := ([(h, .inr (2, [.long 0, .null, .null, .null, .null, .null, .int 0]))] ++ wK G a1 K0 : va_W)) rfl ?_
  refine z_steq (st' := [.ref (a1 0), .ref h]) rfl ?_
  refine z_putF C hin kf_D_12 kp_D 0 ([(h, .inr (2, [.long 0, .ref (a1 0), .null, .null, .null, .null, .int 0]))] ++ wK G a1 K0 : va_W) 15 d_D_init_12 rfl rfl rfl rfl rfl rfl (Nat.le_of_ble_eq_true rfl) rfl ?_
  refine z_aload_n C 16 d_D_init_15 rfl rfl ?_
  refine z_new C (fs := [.null, .null, .null, .long 0, .int 0, .int 0, .int 0]) 19 d_D_init_16 rfl (ci := 0) rfl kw_K kt_K kl_D_9 ki_K kn_K (by decide) (Nat.le_of_ble_eq_true rfl) (Nat.le_of_ble_eq_true rfl) (fun q2 => ?_)
  refine z_dup C 20 d_D_init_19 rfl rfl ?_
  refine z_go C (z_IN C kc_D_11 (c_K_init G l q2) (As := []) (st := [.ref q2, .ref h]) rfl rfl (Nat.le_of_ble_eq_true rfl) ⟨⟨Nat.le_of_ble_eq_true rfl, Nat.le_of_ble_eq_true rfl⟩, Nat.le_of_ble_eq_true rfl, Nat.le_of_ble_eq_true rfl⟩ d_D_init_20) [5] [0, 1, 2, 3, 4] ([(h, .inr (2, [.long 0, .ref (a1 0), .null, .null, .null, .null, .int 0]))] ++ wK G a1 K0 : va_W) 23 rfl rfl rfl rfl rfl (by decide) (fun r w' hw => ?_)
  obtain ⟨rfl, a2, rfl, rfl⟩ := hw
  refine z_weq (w' := ([(h, .inr (2, [.long 0, .ref (a1 0), .null, .null, .null, .null, .int 0]))] ++ wK G a1 K0 ++ wK G a2 K0 : va_W)) rfl ?_
  refine z_steq (st' := [.ref (a2 0), .ref h]) rfl ?_
  refine z_putF C hin kf_D_16 kp_D 0 ([(h, .inr (2, [.long 0, .ref (a1 0), .ref (a2 0), .null, .null, .null, .int 0]))] ++ wK G a1 K0 ++ wK G a2 K0 : va_W) 26 d_D_init_23 rfl rfl rfl rfl rfl rfl (Nat.le_of_ble_eq_true rfl) rfl ?_
  refine z_aload_n C 27 d_D_init_26 rfl rfl ?_
  refine z_new C (fs := [.null, .null, .null, .long 0, .int 0, .int 0, .int 0]) 30 d_D_init_27 rfl (ci := 0) rfl kw_K kt_K kl_D_9 ki_K kn_K (by decide) (Nat.le_of_ble_eq_true rfl) (Nat.le_of_ble_eq_true rfl) (fun q3 => ?_)
  refine z_dup C 31 d_D_init_30 rfl rfl ?_
  refine z_go C (z_IN C kc_D_11 (c_K_init G l q3) (As := []) (st := [.ref q3, .ref h]) rfl rfl (Nat.le_of_ble_eq_true rfl) ⟨⟨Nat.le_of_ble_eq_true rfl, Nat.le_of_ble_eq_true rfl⟩, Nat.le_of_ble_eq_true rfl, Nat.le_of_ble_eq_true rfl⟩ d_D_init_31) [9] [0, 1, 2, 3, 4, 5, 6, 7, 8] ([(h, .inr (2, [.long 0, .ref (a1 0), .ref (a2 0), .null, .null, .null, .int 0]))] ++ wK G a1 K0 ++ wK G a2 K0 : va_W) 34 rfl rfl rfl rfl rfl (by decide) (fun r w' hw => ?_)
  obtain ⟨rfl, a3, rfl, rfl⟩ := hw
  refine z_weq (w' := ([(h, .inr (2, [.long 0, .ref (a1 0), .ref (a2 0), .null, .null, .null, .int 0]))] ++ wK G a1 K0 ++ wK G a2 K0 ++ wK G a3 K0 : va_W)) rfl ?_
  refine z_steq (st' := [.ref (a3 0), .ref h]) rfl ?_
  refine z_putF C hin kf_D_19 kp_D 0 ([(h, .inr (2, [.long 0, .ref (a1 0), .ref (a2 0), .ref (a3 0), .null, .null, .int 0]))] ++ wK G a1 K0 ++ wK G a2 K0 ++ wK G a3 K0 : va_W) 37 d_D_init_34 rfl rfl rfl rfl rfl rfl (Nat.le_of_ble_eq_true rfl) rfl ?_
  refine z_aload_n C 38 d_D_init_37 rfl rfl ?_
  refine z_new C (fs := [.null, .int 0]) 41 d_D_init_38 rfl (ci := 1) rfl kw_R kt_R kl_D_22 ki_R kn_R (by decide) (Nat.le_of_ble_eq_true rfl) (Nat.le_of_ble_eq_true rfl) (fun q4 => ?_)
  refine z_dup C 42 d_D_init_41 rfl rfl ?_
  refine z_go C (z_IN C kc_D_24 (c_R_init G l q4) (As := []) (st := [.ref q4, .ref h]) rfl rfl (Nat.le_of_ble_eq_true rfl) ⟨⟨Nat.le_of_ble_eq_true rfl, Nat.le_of_ble_eq_true rfl⟩, Nat.le_of_ble_eq_true rfl, Nat.le_of_ble_eq_true rfl⟩ d_D_init_42) [13] [0, 1, 2, 3, 4, 5, 6, 7, 8, 9, 10, 11, 12] ([(h, .inr (2, [.long 0, .ref (a1 0), .ref (a2 0), .ref (a3 0), .null, .null, .int 0]))] ++ wK G a1 K0 ++ wK G a2 K0 ++ wK G a3 K0 : va_W) 45 rfl rfl rfl rfl rfl (by decide) (fun r w' hw => ?_)
  obtain ⟨rfl, a4, rfl, rfl⟩ := hw
  refine z_weq (w' := ([(h, .inr (2, [.long 0, .ref (a1 0), .ref (a2 0), .ref (a3 0), .null, .null, .int 0]))] ++ wK G a1 K0 ++ wK G a2 K0 ++ wK G a3 K0 ++ wR G a4 R0 : va_W)) rfl ?_
  refine z_steq (st' := [.ref (a4 0), .ref h]) rfl ?_
  refine z_putF C hin kf_D_25 kp_D 0 ([(h, .inr (2, [.long 0, .ref (a1 0), .ref (a2 0), .ref (a3 0), .ref (a4 0), .null, .int 0]))] ++ wK G a1 K0 ++ wK G a2 K0 ++ wK G a3 K0 ++ wR G a4 R0 : va_W) 48 d_D_init_45 rfl rfl rfl rfl rfl rfl (Nat.le_of_ble_eq_true rfl) rfl ?_
  refine z_aload_n C 49 d_D_init_48 rfl rfl ?_
  refine z_new C (fs := [.null, .int 0]) 52 d_D_init_49 rfl (ci := 1) rfl kw_R kt_R kl_D_22 ki_R kn_R (by decide) (Nat.le_of_ble_eq_true rfl) (Nat.le_of_ble_eq_true rfl) (fun q5 => ?_)
  refine z_dup C 53 d_D_init_52 rfl rfl ?_
  refine z_go C (z_IN C kc_D_24 (c_R_init G l q5) (As := []) (st := [.ref q5, .ref h]) rfl rfl (Nat.le_of_ble_eq_true rfl) ⟨⟨Nat.le_of_ble_eq_true rfl, Nat.le_of_ble_eq_true rfl⟩, Nat.le_of_ble_eq_true rfl, Nat.le_of_ble_eq_true rfl⟩ d_D_init_53) [15] [0, 1, 2, 3, 4, 5, 6, 7, 8, 9, 10, 11, 12, 13, 14] ([(h, .inr (2, [.long 0, .ref (a1 0), .ref (a2 0), .ref (a3 0), .ref (a4 0), .null, .int 0]))] ++ wK G a1 K0 ++ wK G a2 K0 ++ wK G a3 K0 ++ wR G a4 R0 : va_W) 56 rfl rfl rfl rfl rfl (by decide) (fun r w' hw => ?_)
  obtain ⟨rfl, a5, rfl, rfl⟩ := hw
  refine z_weq (w' := ([(h, .inr (2, [.long 0, .ref (a1 0), .ref (a2 0), .ref (a3 0), .ref (a4 0), .null, .int 0]))] ++ wK G a1 K0 ++ wK G a2 K0 ++ wK G a3 K0 ++ wR G a4 R0 ++ wR G a5 R0 : va_W)) rfl ?_
  refine z_steq (st' := [.ref (a5 0), .ref h]) rfl ?_
  refine z_putF C hin kf_D_29 kp_D 0 ([(h, .inr (2, [.long 0, .ref (a1 0), .ref (a2 0), .ref (a3 0), .ref (a4 0), .ref (a5 0), .int 0]))] ++ wK G a1 K0 ++ wK G a2 K0 ++ wK G a3 K0 ++ wR G a4 R0 ++ wR G a5 R0 : va_W) 59 d_D_init_56 rfl rfl rfl rfl rfl rfl (Nat.le_of_ble_eq_true rfl) rfl ?_
  refine z_aload_n C 60 d_D_init_59 rfl rfl ?_
  refine z_iconst C 0 61 d_D_init_60 rfl (by decide) ?_
  refine z_put C kf_D_32 kp_D 0 ([(h, .inr (2, [.long 0, .ref (a1 0), .ref (a2 0), .ref (a3 0), .ref (a4 0), .ref (a5 0), .int 0]))] ++ wK G a1 K0 ++ wK G a2 K0 ++ wK G a3 K0 ++ wR G a4 R0 ++ wR G a5 R0 : va_W) 64 d_D_init_61 rfl rfl rfl (znr_i _) (zft_i _) (Nat.le_of_ble_eq_true rfl) rfl ?_
  refine z_aload_n C 65 d_D_init_64 rfl rfl ?_
  refine z_lload_n C 66 d_D_init_65 rfl rfl ?_
  refine z_putF C hin kf_D_36 kp_D 0 ([(h, .inr (2, [.long x1, .ref (a1 0), .ref (a2 0), .ref (a3 0), .ref (a4 0), .ref (a5 0), .int 0]))] ++ wK G a1 K0 ++ wK G a2 K0 ++ wK G a3 K0 ++ wR G a4 R0 ++ wR G a5 R0 : va_W) 69 d_D_init_66 rfl rfl rfl rfl (znr_l _) (zft_l _) (Nat.le_of_ble_eq_true rfl) rfl ?_
  exact z_vret C hlk hr d_D_init_69 ⟨rfl, fun i => if i = 0 then h else if i < 5 then a1 (i - 1) else if i < 9 then a2 (i - 5) else if i < 13 then a3 (i - 9) else if i < 15 then a4 (i - 13) else a5 (i - 15), rfl, rfl⟩
