def cell0 (L : Nat) (xs : Nat → Int32) : Int32 := if Int32.ofNat L ≤ 0 then 0 else xs 0
theorem nA {sz b : Nat} (h : b < sz) : ¬ va_A [] sz b := by
  intro q
  rcases q with ⟨k, e, q⟩ | q
  · simp at q
  · omega
theorem nP (G : zG) (H : Heap) : va_P G.1 vwCl [] H := fun k q h => by simp at h
theorem nD (A : Nat → Prop) : va_D A [] := ⟨fun i j p q h => by simp at h, fun k q h => by simp at h⟩
def cellPre (G : zG) (b L : Nat) (xs : Nat → Int32) (sz : Nat) : Array Value → State → Prop := va_Pc [.ref b, .int 0] (fun U => U.heap.size = sz ∧ zK G U ∧ b < sz ∧ va_X b L xs U U.heap)
theorem cell_in {L : Nat} (hL : L ≤ 2561) (h : ¬ Int32.ofNat L ≤ 0) : vp_in 0 L := by
  rcases Nat.eq_zero_or_pos L with q | q
  · subst q; exact absurd (by decide) h
  · exact vp_in_nI (n := 0) (by omega) (by omega)
theorem c_L_cell (G : zG) (l : Launch) (b L : Nat) (xs : Nat → Int32) (hL : L ≤ 2561) (sz : Nat) : Met l y_L_cell (zW y_L_cell b_L_cell 2 (some .int)) (zR 0 0) (cellPre G b L xs sz) (zQ G [] sz (fun r1 w1 => r1 = some (.int (cell0 L xs)) ∧ w1 = [])) 0 0 (va_A [] sz) := by
  refine Met.ofW (cc := b_L_cell) (maxL := 2) (ret := some .int) (by decide) rfl ?_
  intro p e s m args below meth c s₁ B hml hv
  obtain ⟨rfl, hsz, hK, hbl, hX⟩ := hv
  subst hsz
  have hts := atoms_spec (ws := zW y_L_cell b_L_cell 2 (some .int)) B.pre
  have hbA := nA hbl
  have hr := B.returns
  have hlk := B.notSynchronized
  have hl := lv_entry [.ref b, .int 0] (n := 2) (Nat.le_of_ble_eq_true rfl)
  rw [lg_entry_eq]
  have C : zC p s m (([.ref b, .int 0] : List Value).toArray) meth c b_L_cell 2 N_L G (va_A [] s.heap.size) := ⟨B.exec, B.bytes, hml, findClass_of_methodNamed B.named, fun w hw => hts w (List.mem_cons_of_mem _ hw), hK, fun q h => Or.inr h⟩
  have body : zV p l e (zR 0 0) s m (([.ref b, .int 0] : List Value).toArray) below meth c 2 G (va_A [] s.heap.size) (MQ below (zQ G [] s.heap.size (fun r1 w1 => r1 = some (.int (cell0 L xs)) ∧ w1 = [])) (([.ref b, .int 0] : List Value).toArray) s 0 0 (va_A [] s.heap.size)) 0 0 [] 0 [(0, .ref b), (1, .int 0)] [] := by
    refine z_iload_n C 1 d_L_cell_0 rfl rfl ?_
    refine z_aload_n C 2 d_L_cell_1 rfl rfl ?_
    refine z_slen C hX hbl hbA 3 d_L_cell_2 rfl ?_
    refine z_icmp_ge C 12 6 d_L_cell_3 (by decide) rfl (fun h => ?_) (fun h => ?_)
    · refine z_iconst C 0 13 d_L_cell_12 rfl (by decide) ?_
      exact z_iret C hlk hr d_L_cell_13 ⟨by rw [cell0, if_pos h], rfl⟩
    · refine z_aload_n C 7 d_L_cell_6 rfl rfl ?_
      refine z_iload_n C 8 d_L_cell_7 rfl rfl ?_
      refine z_sld C hX hbl hbA 9 d_L_cell_8 rfl (cell_in hL h) ?_
      refine z_goto C 13 d_L_cell_9 (by decide) ?_
      exact z_iret C hlk hr d_L_cell_13 ⟨by rw [cell0, if_neg h]; rfl, rfl⟩
  exact body s.heap [] _ (nP G _) (nD _) va_S.rf hl
theorem cellPre_blind {G : zG} {b L : Nat} {xs : Nat → Int32} {sz : Nat} : FrameBlind (cellPre G b L xs sz) := fun a U g mk q => ⟨q.1, q.2.1, zK.same (u := U) (U := U.calling g mk a) rfl q.2.2.1, q.2.2.2.1, va_X.moved (u := U) (U := U.calling g mk a) (Vm.Alike.refl U.vm) q.2.2.2.2⟩
section LAWROWS
variable {p : Program} {l : Launch} {e : Env} {R : Room} {s : State} {m : MethodId} {args : Array Value} {below : List Frame} {meth : Method} {c : Code} {Q : State → Prop} {cc : ByteArray} {nL : Nat} {own : String} {G : zG} {A : Nat → Prop} {k n : Nat} {w : va_W} {pc : Nat} {lv : List (Nat × Value)} {st : List Value}
theorem z_cell (C : zC p s m args meth c cc nL N_L G A) {b L : Nat} {xs : Nat → Int32} (hL : L ≤ 2561) (hX : va_X b L xs s s.heap) (hbl : b < s.heap.size) (hbA : ¬ A b) (is : List Nat) (pc' : Nat) (hd : decode cc pc = .ok (.invokestatic 9, 3)) (hp : pc + 3 = pc') (hW : (st.map fun v => v.category).sum ≤ 8) (hR : zRoom R (zR 0 0) 2 k n) (hi : is.map (fun i => w[i]?) = w.map some) (hn : va_nd is = true) (K : zV p l e R s m args below meth c nL G A Q k n w pc' lv (.int (cell0 L xs) :: st)) : zV p l e R s m args below meth c nL G A Q k n w pc lv (.int 0 :: .ref b :: st) := by
  subst hp
  intro H locs ls hP hD hS hl T hT Y
  have hXH : va_X b L xs s H := hX.kept (hS.2.1 b hbl hbA)
  have hFc : ∀ q, va_A [] H.size q → A q := fun q h => by
    rcases h with ⟨j, e9, h⟩ | h
    · simp at h
    · exact C.2.2.2.2.2.2 q (Nat.le_trans hS.1 h)
  obtain ⟨v, st₀, t, T', L', h0, X', hL', e1, e2, ⟨⟨r, w', hv, ⟨hr1, hw1⟩, hP1, hD1⟩, hz, hk⟩, stp⟩ := va_runS (As := [.ref b, .int 0]) (rest := st) ⟨C.1, C.2.1, C.2.2.1, C.2.2.2.1, C.2.2.2.2.1⟩ (c_L_cell G l b L xs hL H.size) ⟨zCallB C.2.2.2.2.1 kc_L_9.1 kc_L_9.2.1 hR.1, C.2.2.2.2.1 _ kc_L_9.2.2⟩ ⟨cellPre_blind, fun U hU hW => ⟨rfl, by rw [hU], zK.warm hW C.2.2.2.2.2.1, Nat.lt_of_lt_of_le hbl hS.1, by rw [hU]; exact va_X.moved hW.alike hXH⟩⟩ rfl rfl hl.1 rfl (lv_room hW) hd hR.2 T hT Y
  cases hv
  subst hr1
  subst hw1
  rw [h0] at hz hk
  obtain ⟨hP2, hD2⟩ := va_join (wr := w) (w1 := []) hP hD [] is rfl hi hn (fun _ _ h => by cases h) hk hFc hP1 hD1
  rw [List.append_nil] at hP2 hD2
  have hS2 : va_S A s.heap T'.heap (locs ++ L') := ⟨Nat.le_trans hS.1 (by rw [e1]; exact hz), fun q h1 h2 => by rw [e1, hk q (Nat.lt_of_lt_of_le h1 hS.1) (fun z => h2 (hFc q z))]; exact hS.2.1 q h1 h2, fun q hq => by
      rcases List.mem_append.mp hq with h | h
      · exact hS.2.2 q h
      · exact hFc _ (hL' q h)⟩
  obtain ⟨t2, a1, b1⟩ := K T'.heap (locs ++ L') ls (by rw [e1]; exact hP2) hD2 hS2 hl T' rfl X'
  exact ⟨t2, stp t2 a1, b1⟩
variable {a a' : Nat → Nat} {D D' : SD} {M M' : SM} {st0 : List Value} {dR dL : Nat} {r : Option Value}
theorem z_goD (C : zC p s m args meth c cc nL own G A) (X : zCall p l e R s m args below meth c nL G k n pc st0 st (zR dR dL) (wD G a D) (fun r1 w1 => r1 = r ∧ w1 = wD G a D')) (st2 : List Value) (pc' : Nat) (hs : r.toList ++ st = st2) (hp : pc + 3 = pc') (K : zV p l e R s m args below meth c nL G A Q k n (wD G a D' ++ wM G a' M) pc' lv st2) : zV p l e R s m args below meth c nL G A Q k n (wD G a D ++ wM G a' M) pc lv st0 :=
  z_goF C X [0, 1, 2, 3, 4, 5, 6, 7, 8, 9, 10, 11, 12, 13, 14, 15, 16] [17, 18, 19, 20] [4, 5, 6, 7, 8, 9, 10, 11, 12, 13, 14, 15, 16, 17, 18, 19, 20, 0, 1, 2, 3] (wM G a' M) (wD G a D' ++ wM G a' M) st2 pc' hs hp rfl rfl rfl rfl (by decide) rfl rfl K
theorem z_goM (C : zC p s m args meth c cc nL own G A) (X : zCall p l e R s m args below meth c nL G k n pc st0 st (zR dR dL) (wM G a' M) (fun r1 w1 => r1 = r ∧ w1 = wM G a' M')) (st2 : List Value) (pc' : Nat) (hs : r.toList ++ st = st2) (hp : pc + 3 = pc') (K : zV p l e R s m args below meth c nL G A Q k n (wD G a D ++ wM G a' M') pc' lv st2) : zV p l e R s m args below meth c nL G A Q k n (wD G a D ++ wM G a' M) pc lv st0 :=
  z_goF C X [17, 18, 19, 20] [0, 1, 2, 3, 4, 5, 6, 7, 8, 9, 10, 11, 12, 13, 14, 15, 16] [0, 1, 2, 3, 4, 5, 6, 7, 8, 9, 10, 11, 12, 13, 14, 15, 16, 17, 18, 19, 20] (wD G a D) (wD G a D ++ wM G a' M') st2 pc' hs hp rfl rfl rfl rfl (by decide) rfl rfl K
end LAWROWS
theorem Big.start (x : Int64) : Big (D0 x) (M0 x) := by
  refine ⟨rfl, ⟨rfl, 0, by decide, rfl, rfl, ⟨fun p w h => absurd h (Nat.not_lt_zero _), fun h => absurd (show (-1 : Int32) = 0 from h) (by decide), fun _ => rfl, fun p h => absurd h (Nat.not_lt_zero _)⟩, fun j _ => ?_⟩, rfl, ⟨0, by decide, rfl, rfl, fun j h => absurd h (Nat.not_lt_zero _)⟩, ⟨0, by decide, rfl, rfl, fun j h => absurd h (Nat.not_lt_zero _)⟩⟩
  show (0 : Int32).toBitVec.getLsbD j = false
  rw [show (0 : Int32).toBitVec = 0#32 by decide, BitVec.getLsbD_zero]
theorem Big.lets {D : SD} {M : SM} (h : Big D M) : sM_kind M = 0 → ∀ k : Int32, ¬ k < 0 → ¬ sM_parts M ≤ k → zr (sM_values M (Int32.toNatClampNeg (3 * k))) 0 6 := by
  obtain ⟨hk, P, hP2, hP, hPM, ⟨hN, hT, _, _⟩, hb⟩ := h.2.1
  intro h0 k h1 h2
  obtain ⟨f, g1, _⟩ := hT h0
  rw [hPM] at h2
  obtain ⟨j, rfl, q1, q2⟩ := zr_lt h1 h2 (⟨P, rfl, Nat.zero_le _, hP2⟩ : zr (nI P) 0 21) (by decide)
  have q3 : j < P := by
    rcases Nat.lt_or_ge j P with r | r
    · exact r
    · exact absurd (nI_le r (by omega)) h2
  have e := hN j 0 q3 (by decide)
  rw [show 3 * (21 * 0 + j) + 0 = 3 * j by omega] at e
  rw [show (3 : Int32) = nI 3 from rfl, pk_mul, nI_clamp (by omega), ← e]
  exact ⟨f j, (g1 j q3).2.1, Nat.zero_le _, (g1 j q3).1⟩
theorem lx {j d L : Nat} (h : j + 5 ≤ L) (hd : d < 5) (hL : L ≤ 2561) : vp_in (nI j + nI d) L := by
  rw [nI_add]
  exact vp_in_nI (by omega) (by omega)
theorem lx0 {j L : Nat} (h : j + 5 ≤ L) (hL : L ≤ 2561) : vp_in (nI j) L := vp_in_nI (by omega) (by omega)
