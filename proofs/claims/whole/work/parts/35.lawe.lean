set_option maxRecDepth 100000 in
set_option maxHeartbeats 4000000 in
theorem law_start {p : Program} {l : Launch} {e : Env} {s : State} {m : MethodId} {below : List Frame} {meth : Method} {c : Code} {G : zG} {b L : Nat} {xs : Nat → Int32} (C : zC p s m #[Value.ref b] meth c code 4 N_L G (va_A [] s.heap.size)) (hlk : meth.locks = false) (hr : meth.sig.returnType = ret) (hX : va_X b L xs s s.heap) (hbl : b < s.heap.size) (hL : L ≤ 2561) : zV p l e room_1 s m #[Value.ref b] below meth c 4 G (va_A [] s.heap.size) (lw_Z below #[Value.ref b] s) 0 0 [] 0 [(0, .ref b)] [] := by
  have hbA := nA hbl
  refine z_new C (fs := [.long 0, .null, .null, .null, .null, .null, .int 0]) 3 d_L_law_0 rfl (ci := 2) rfl kw_D kt_D kl_L_7 ki_D kn_D (by decide) (Nat.le_of_ble_eq_true rfl) (Nat.le_of_ble_eq_true rfl) (fun q1 => ?_)
  refine z_weq (w' := [(q1, .inr (2, [.long 0, .null, .null, .null, .null, .null, .int 0]))]) rfl ?_
  refine z_dup C 4 d_L_law_3 rfl rfl ?_
  refine z_aload_n C 5 d_L_law_4 rfl rfl ?_
  refine z_iconst C 0 6 d_L_law_5 rfl (by decide) ?_
  refine z_cell C hL hX hbl hbA [0] 9 d_L_law_6 rfl (Nat.le_of_ble_eq_true rfl) ⟨⟨Nat.le_of_ble_eq_true rfl, Nat.le_of_ble_eq_true rfl⟩, Nat.le_of_ble_eq_true rfl, Nat.le_of_ble_eq_true rfl⟩ rfl rfl ?_
  refine z_i2l C 10 d_L_law_9 rfl ?_
  refine z_topl (fun x hx9 => ?_)
  refine z_go C (z_I C kc_L_15 (c_D_init G l q1 x) (As := [.long x]) (st := [.ref q1]) rfl rfl (Nat.le_of_ble_eq_true rfl) ⟨⟨Nat.le_of_ble_eq_true rfl, Nat.le_of_ble_eq_true rfl⟩, Nat.le_of_ble_eq_true rfl, Nat.le_of_ble_eq_true rfl⟩ d_L_law_10) [0] [] [] 13 rfl rfl rfl rfl rfl (fun _ h => by cases h) (fun r w' hw => ?_)
  obtain ⟨rfl, a, rfl, rfl⟩ := hw
  refine z_weq (w' := wD G a (D0 x)) rfl ?_
  refine z_steq (st' := [.ref (a 0)]) rfl ?_
  refine z_astore_n C [(1, .ref (a 0)), (0, .ref b)] 14 d_L_law_13 rfl (by decide) rfl ?_
  refine z_new C (fs := [.int 0, .long 0, .long 0, .int 0, .int 0, .null, .null, .int 0, .int 0, .null, .int 0]) 17 d_L_law_14 rfl (ci := 3) rfl kw_M kt_M kl_L_18 ki_M kn_M (by decide) (Nat.le_of_ble_eq_true rfl) (Nat.le_of_ble_eq_true rfl) (fun q2 => ?_)
  refine z_dup C 18 d_L_law_17 rfl rfl ?_
  refine z_aload_n C 19 d_L_law_18 rfl rfl ?_
  refine z_iconst C 0 20 d_L_law_19 rfl (by decide) ?_
  refine z_cell C hL hX hbl hbA [0, 1, 2, 3, 4, 5, 6, 7, 8, 9, 10, 11, 12, 13, 14, 15, 16, 17] 23 d_L_law_20 rfl (Nat.le_of_ble_eq_true rfl) ⟨⟨Nat.le_of_ble_eq_true rfl, Nat.le_of_ble_eq_true rfl⟩, Nat.le_of_ble_eq_true rfl, Nat.le_of_ble_eq_true rfl⟩ rfl rfl ?_
  refine z_i2l C 24 d_L_law_23 rfl ?_
  refine z_go C (z_I C kc_L_20 (c_M_init G l q2 (Int32.toInt64 (cell0 L xs))) (As := [.long (Int32.toInt64 (cell0 L xs))]) (st := [.ref q2]) rfl rfl (Nat.le_of_ble_eq_true rfl) ⟨⟨Nat.le_of_ble_eq_true rfl, Nat.le_of_ble_eq_true rfl⟩, Nat.le_of_ble_eq_true rfl, Nat.le_of_ble_eq_true rfl⟩ d_L_law_24) [17] [0, 1, 2, 3, 4, 5, 6, 7, 8, 9, 10, 11, 12, 13, 14, 15, 16] (wD G a (D0 x)) 27 rfl rfl rfl rfl rfl (by decide) (fun r w' hw => ?_)
  obtain ⟨rfl, a', rfl, rfl⟩ := hw
  refine z_steq (st' := [.ref (a' 0)]) rfl ?_
  refine z_astore_n C [(2, .ref (a' 0)), (1, .ref (a 0)), (0, .ref b)] 28 d_L_law_27 rfl (by decide) rfl ?_
  refine z_iconst C 1 29 d_L_law_28 rfl (by decide) ?_
  refine z_istore_n C [(3, .int 1), (2, .ref (a' 0)), (1, .ref (a 0)), (0, .ref b)] 30 d_L_law_29 rfl (by decide) rfl ?_
  refine z_lvs [3, 2, 1, 0] [(0, .ref b), (1, .ref (a 0)), (2, .ref (a' 0)), (3, .int (nI 1))] rfl ?_
  exact law_loop C hlk hr hX hbl hL (L + 6) 1 _ _ (by omega) (by omega) (hx9 ▸ Big.start _)
/-- the law from its entry -/
theorem whole_start {p : Program} {e : Env} {s : State} {m : MethodId} {below : List Frame} {meth : Method} {c : Code} (l : Launch) {b L : Nat} {xs : Nat → Int32} (hL : L ≤ 2561) (C0 : lw_At p s m meth c b L xs) : W p l e room_1 s m #[Value.ref b] below meth c s.heap [] 0 0 (lw_Z below #[Value.ref b] s) (entryFrame m ([Value.ref b] : List Value).toArray 4) := by
  obtain ⟨hx, hcode, hret, hml, hown, hts, hX, hbl, hlk, hgv⟩ := C0
  have hts2 : ∀ w ∈ zTs, w.before #[Value.ref b] s = true := fun w hw => hts w (zTs_tbl w hw)
  obtain ⟨c0, i0, k0⟩ := u_known (C := N_K) (T := T_K) (N := 7) hts2 kw_K (hts2 _ ki_K)
  obtain ⟨c1, i1, k1⟩ := u_known (C := N_R) (T := T_R) (N := 2) hts2 kw_R (hts2 _ ki_R)
  obtain ⟨c2, i2, k2⟩ := u_known (C := N_D) (T := T_D) (N := 7) hts2 kw_D (hts2 _ ki_D)
  obtain ⟨c3, i3, k3⟩ := u_known (C := N_M) (T := T_M) (N := 11) hts2 kw_M (hts2 _ ki_M)
  obtain ⟨cI, kI, compI, f1, f2, f3⟩ := Cond.arrayClass_spec (hts2 _ ka_int)
  obtain ⟨cB, kB, compB, g1, g2, g3⟩ := Cond.arrayClass_spec (hts2 _ ka_byte)
  have hG : ∃ G : zG, zK G s := by
    refine ⟨((fun c => if c = 0 then c0 else if c = 1 then c1 else if c = 2 then c2 else c3, fun c => if c = 0 then i0 else if c = 1 then i1 else if c = 2 then i2 else i3), fun k => if k = 0 then cI else cB), ⟨fun c q hq => ?_, fun k q hq => ?_⟩, fun w hw => va_Nw.of (zNest_tab w hw) (hts w (zNest_tbl w hw))⟩
    · match c, hq with
      | 0, hq => cases hq; exact k0
      | 1, hq => cases hq; exact k1
      | 2, hq => cases hq; exact k2
      | 3, hq => cases hq; exact k3
      | c + 4, hq => cases hq
    · match k, hq with
      | 0, hq => cases hq; exact ⟨fun n z => ⟨fun k h => (by cases h), kI, f2, compI, f3⟩, f1⟩
      | 1, hq => cases hq; exact ⟨fun n z => ⟨fun k h => (by cases h), kB, g2, compB, g3⟩, g1⟩
      | k + 2, hq => cases hq
  obtain ⟨G, hK⟩ := hG
  have C : zC p s m #[Value.ref b] meth c code 4 N_L G (va_A [] s.heap.size) := ⟨hx, hcode, hml, hown, hts2, hK, fun q h => Or.inr h⟩
  rw [lg_entry_eq]
  exact law_start C hlk hret hX hbl hL s.heap [] _ (nP G _) (nD _) va_S.rf (lv_entry [.ref b] (n := 4) (Nat.le_of_ble_eq_true rfl))
