theorem law_in {j L : Nat} (hL : L ≤ 2561) (hj : j ≤ L + 5) (h : ¬ Int32.ofNat L - 5 < nI j) : j + 5 ≤ L := by
  have h1 := mt Int32.lt_iff_toInt_lt.mpr h
  rw [show Int32.ofNat L - 5 = nI L - nI 5 from rfl, pk_sub_toInt (by omega) (by decide), nI_toInt (by omega)] at h1
  omega
theorem z_lawret {p : Program} {l : Launch} {e : Env} {s : State} {m : MethodId} {below : List Frame} {meth : Method} {c : Code} {G : zG} {b : Nat} {w : va_W} {lv : List (Nat × Value)} {pc : Nat} (C : zC p s m #[Value.ref b] meth c code 4 N_L G (va_A [] s.heap.size)) (hlk : meth.locks = false) (hr : meth.sig.returnType = ret) (hd : decode code pc = .ok (.ireturn, 1)) : zV p l e room_1 s m #[Value.ref b] below meth c 4 G (va_A [] s.heap.size) (lw_Z below #[Value.ref b] s) 21 1327 w pc lv [.int 1] := by
  intro H locs ls hP hD hS hl
  refine va_forget (fun q hq => ?_) (lw_ret C.1 C.2.1 hr hlk hd)
  rcases hS.2.2 q hq with ⟨k, e, h⟩ | h
  · simp at h
  · exact h
set_option maxRecDepth 100000 in
set_option maxHeartbeats 4000000 in
theorem law_loop {p : Program} {l : Launch} {e : Env} {s : State} {m : MethodId} {below : List Frame} {meth : Method} {c : Code} {G : zG} {b L : Nat} {xs : Nat → Int32} {a a' : Nat → Nat} (C : zC p s m #[Value.ref b] meth c code 4 N_L G (va_A [] s.heap.size)) (hlk : meth.locks = false) (hr : meth.sig.returnType = ret) (hX : va_X b L xs s s.heap) (hbl : b < s.heap.size) (hL : L ≤ 2561) : ∀ (n j : Nat) (D : SD) (M : SM), j ≤ L + 5 → L + 5 - j < n → Big D M → zV p l e room_1 s m #[Value.ref b] below meth c 4 G (va_A [] s.heap.size) (lw_Z below #[Value.ref b] s) 21 1327 (wD G a D ++ wM G a' M) 30 [(0, .ref b), (1, .ref (a 0)), (2, .ref (a' 0)), (3, .int (nI j))] [] := by
  have hbA := nA hbl
  intro n
  induction n with
  | zero => intro j D M _ h; exact absurd h (Nat.not_lt_zero _)
  | succ n ih =>
    intro j D M hj0 hn hB
    refine z_iload_n C 31 d_L_law_30 rfl rfl ?_
    refine z_aload_n C 32 d_L_law_31 rfl rfl ?_
    refine z_slen C hX hbl hbA 33 d_L_law_32 rfl ?_
    refine z_iconst C 5 34 d_L_law_33 rfl (by decide) ?_
    refine z_isub C 35 d_L_law_34 rfl ?_
    refine z_icmp_gt C 437 38 d_L_law_35 (by decide) rfl (fun q => ?_) (fun q => ?_)
    · refine z_iconst C 1 438 d_L_law_437 rfl (by decide) ?_
      exact z_lawret C hlk hr d_L_law_438
    · have hj := law_in hL hj0 q
      have K : ∀ (D' : SD) (M' : SM), Big D' M' → zV p l e room_1 s m #[Value.ref b] below meth c 4 G (va_A [] s.heap.size) (lw_Z below #[Value.ref b] s) 21 1327 (wD G a D' ++ wM G a' M') 431 [(0, .ref b), (1, .ref (a 0)), (2, .ref (a' 0)), (3, .int (nI j))] [] := by
        intro D' M' hB'
        refine z_iinc C (nI (j + 5)) [(3, .int (nI (j + 5))), (0, .ref b), (1, .ref (a 0)), (2, .ref (a' 0))] 434 d_L_law_431 rfl (by decide) rfl (by rw [← nI_add]; rfl) rfl ?_
        refine z_goto C 30 d_L_law_434 (by decide) ?_
        refine z_lvs [1, 2, 3, 0] [(0, .ref b), (1, .ref (a 0)), (2, .ref (a' 0)), (3, .int (nI (j + 5)))] rfl ?_
        exact ih (j + 5) D' M' (by omega) (by omega) hB'
      refine z_aload_n C 39 d_L_law_38 rfl rfl ?_
      refine z_iload_n C 40 d_L_law_39 rfl rfl ?_
      refine z_sld C hX hbl hbA 41 d_L_law_40 rfl (lx0 hj hL) ?_
      refine z_bipush C 15 43 d_L_law_41 rfl (by decide) ?_
      refine z_iand C 44 d_L_law_43 rfl ?_
      refine z_topi (fun o _ => ?_)
      by_cases c0 : o = 0
      · refine z_tableIn C 104 d_L_law_44 (by rw [c0]; decide) (by rw [c0]; decide) (by rw [c0]; rfl) (by decide) ?_
        exact law_draw C hX hbl hbA hL hj rfl rfl rfl rfl rfl hB K
      by_cases c1 : o = 1
      · refine z_tableIn C 137 d_L_law_44 (by rw [c1]; decide) (by rw [c1]; decide) (by rw [c1]; rfl) (by decide) ?_
        exact law_part C hX hbl hbA hL hj rfl rfl rfl rfl rfl hB K
      by_cases c2 : o = 2
      · refine z_tableIn C 170 d_L_law_44 (by rw [c2]; decide) (by rw [c2]; decide) (by rw [c2]; rfl) (by decide) ?_
        exact law_letter C hX hbl hbA hL hj rfl rfl rfl rfl rfl hB K
      by_cases c3 : o = 3
      · refine z_tableIn C 193 d_L_law_44 (by rw [c3]; decide) (by rw [c3]; decide) (by rw [c3]; rfl) (by decide) ?_
        exact law_majority C hX hbl hbA hL hj rfl rfl rfl rfl rfl hB K
      by_cases c4 : o = 4
      · refine z_tableIn C 216 d_L_law_44 (by rw [c4]; decide) (by rw [c4]; decide) (by rw [c4]; rfl) (by decide) ?_
        exact law_ends C hX hbl hbA hL hj rfl rfl rfl rfl rfl hB K
      by_cases c5 : o = 5
      · refine z_tableIn C 239 d_L_law_44 (by rw [c5]; decide) (by rw [c5]; decide) (by rw [c5]; rfl) (by decide) ?_
        exact law_planted C hX hbl hbA hL hj rfl rfl rfl rfl rfl hB K
      by_cases c6 : o = 6
      · refine z_tableIn C 262 d_L_law_44 (by rw [c6]; decide) (by rw [c6]; decide) (by rw [c6]; rfl) (by decide) ?_
        exact law_verdict C hX hbl hbA hL hj rfl rfl rfl rfl rfl hB K
      by_cases c7 : o = 7
      · refine z_tableIn C 309 d_L_law_44 (by rw [c7]; decide) (by rw [c7]; decide) (by rw [c7]; rfl) (by decide) ?_
        exact law_shorter C hX hbl hbA hL hj rfl rfl rfl rfl rfl hB K
      by_cases c8 : o = 8
      · refine z_tableIn C 322 d_L_law_44 (by rw [c8]; decide) (by rw [c8]; decide) (by rw [c8]; rfl) (by decide) ?_
        exact law_left C hX hbl hbA hL hj rfl rfl rfl rfl rfl hB K
      by_cases c9 : o = 9
      · refine z_tableIn C 345 d_L_law_44 (by rw [c9]; decide) (by rw [c9]; decide) (by rw [c9]; rfl) (by decide) ?_
        exact law_minimal C hX hbl hbA hL hj rfl rfl rfl rfl rfl hB K
      by_cases c10 : o = 10
      · refine z_tableIn C 358 d_L_law_44 (by rw [c10]; decide) (by rw [c10]; decide) (by rw [c10]; rfl) (by decide) ?_
        exact law_same C hX hbl hbA hL hj rfl rfl rfl rfl rfl hB K
      refine z_tableOut C 431 d_L_law_44 (by have q0 := lv_neT c0 (a := 0) (by decide); have q1 := lv_neT c1 (a := 1) (by decide); have q2 := lv_neT c2 (a := 2) (by decide); have q3 := lv_neT c3 (a := 3) (by decide); have q4 := lv_neT c4 (a := 4) (by decide); have q5 := lv_neT c5 (a := 5) (by decide); have q6 := lv_neT c6 (a := 6) (by decide); have q7 := lv_neT c7 (a := 7) (by decide); have q8 := lv_neT c8 (a := 8) (by decide); have q9 := lv_neT c9 (a := 9) (by decide); have q10 := lv_neT c10 (a := 10) (by decide); omega) (by decide) ?_
      exact K D M hB
