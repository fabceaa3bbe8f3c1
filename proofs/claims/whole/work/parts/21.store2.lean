set_option maxHeartbeats 4000000 in
set_option maxRecDepth 100000 in
/-- Arrays.copyOf -/
theorem c_copyOf_i (l : Launch) (dC : Nat → ClassId) (dI : Nat → Nat → Nat) (cI cL cB : ClassId) (a : Nat) (n : Nat) (N : Nat) (fn : Nat → Nat) (hLN : n < N) (hN : N < 2 ^ 20) : StdR l y_J_copyOf_i (wd y_J_copyOf_i b_J_copyOf_i 3 (some (.array .int))) 1 28 1 N (dC, dI) classes (tyK cI cL cB) [.ref a, .int (nI N)] [(a, .inl (cI, n, .inl (nf fn)))] (fun (r : Nat) (u : Unit) => True) (fun (u : Unit) (r : Nat) => [(a, .inl (cI, n, .inl (nf fn))), (r, .inl (cI, N, .inl (nf (cpz fn (fun _ => 0) n))))]) := by
  refine StdR.mk (cc := b_J_copyOf_i) (maxL := 3) (Or.inr ⟨_, rfl⟩) (by decide) rfl (Nat.le_of_ble_eq_true rfl) ?_
  intro p e s m below meth c A Z ls hx hb hml hown hts hin hP hK hD hA hS hret hl
  have hown : s.vm.findClass "java/util/Arrays" = some m.cls := hown
  have hw : ∀ x ∈ WALL, x.before _ s = true := fun x h => hts x (List.mem_cons_of_mem _ h)
  have hl : lv_has ls 3 [(0, .ref a), (1, .int (nI N))] := hl
  refine lv_iload_n hx hb d_J_copyOf_i_0 rfl (lv_at hl 1 rfl) ?_
  refine lv_aload_n hx hb d_J_copyOf_i_1 rfl (lv_at hl 0 rfl) ?_
  refine fz_alen hx hb hK hP 0 0 rfl rfl d_J_copyOf_i_2 ?_
  refine lv_icmp_ne (tgt := 14) hx hb d_J_copyOf_i_3 (by decide) (fun c3 => ?_) (fun c3 => ?_)
  · have c3 : ¬ N = n := fun h => c3 (by exact (nI_eq (by omega) (by omega)).mpr h)
    refine lv_iload_n hx hb d_J_copyOf_i_14 rfl (lv_at hl 1 rfl) ?_
    refine fz_newi hx hb (hw _ m_47) hK 0 rfl hP hD hS hA (by omega) (by (try dsimp only); omega) (by (try dsimp only); omega) d_J_copyOf_i_15 (fun q_1 H hP hD hS => ?_)
    have hP : va_P (dC, dI) classes [(a, .inl (cI, n, .inl (nf fn))), (q_1, .inl (cI, N, .inl (nf (fun _ => 0))))] H := hP
    have hD : va_D A [(a, .inl (cI, n, .inl (nf fn))), (q_1, .inl (cI, N, .inl (nf (fun _ => 0))))] := hD
    refine W.widen (k := 1) (n := N) (by omega) (by omega) ?_
    refine lv_astore_n (lv' := [(2, .ref q_1), (0, .ref a), (1, .int (nI N))]) hx hb d_J_copyOf_i_17 rfl hl (by decide) rfl (fun ls hl => ?_)
    refine lv_aload_n hx hb d_J_copyOf_i_18 rfl (lv_at hl 1 rfl) ?_
    refine lv_iconst (v := nI 0) hx hb d_J_copyOf_i_19 (by decide) ?_
    refine lv_aload_n hx hb d_J_copyOf_i_20 rfl (lv_at hl 0 rfl) ?_
    refine lv_iconst (v := nI 0) hx hb d_J_copyOf_i_21 (by decide) ?_
    refine lv_aload_n hx hb d_J_copyOf_i_22 rfl (lv_at hl 1 rfl) ?_
    refine fz_alen hx hb hK hP 0 0 rfl rfl d_J_copyOf_i_23 ?_
    refine lv_iload_n hx hb d_J_copyOf_i_24 rfl (lv_at hl 2 rfl) ?_
    refine va_mmin hx hb (hml.trans hl.1.symm) hown (hw _ m_121) (hw _ m_109) (hw _ m_5) (hw _ m_110) (Nat.le_of_ble_eq_true rfl) (Nat.le_of_ble_eq_true rfl) (by (try dsimp only); omega) (by (try dsimp only); omega) d_J_copyOf_i_25 ?_
    refine fz_eqi (y := nI n) (fz_minN (by omega) (by omega) (if_neg (by omega))) ?_
    refine fz_cpyi hx hb (hml.trans hl.1.symm) hown (hw _ m_122) (hw _ m_124) (hw _ m_123) (hw _ m_7) hK hP hD hS 0 1 0 rfl rfl rfl (by omega) (by omega) (by omega) (Nat.le_of_ble_eq_true rfl) (Nat.le_of_ble_eq_true rfl) d_J_copyOf_i_28 (fun H locs hP hD hS => ?_)
    have hP : va_P (dC, dI) classes [(a, .inl (cI, n, .inl (nf fn))), (q_1, .inl (cI, N, .inl (nf (cpz fn (fun _ => 0) n))))] H := hP
    have hD : va_D A [(a, .inl (cI, n, .inl (nf fn))), (q_1, .inl (cI, N, .inl (nf (cpz fn (fun _ => 0) n))))] := hD
    refine lv_aload_n hx hb d_J_copyOf_i_31 rfl (lv_at hl 0 rfl) ?_
    exact hret q_1 () _ _ 32 ls trivial hP hD hS d_J_copyOf_i_32
  · have c3 : N = n := by exact (nI_eq (by omega) (by omega)).mp c3
    exact absurd c3 (by omega)
set_option maxHeartbeats 4000000 in
set_option maxRecDepth 100000 in
/-- Arrays.copyOf -/
theorem c_copyOf_l (l : Launch) (dC : Nat → ClassId) (dI : Nat → Nat → Nat) (cI cL cB : ClassId) (a : Nat) (n : Nat) (N : Nat) (fn : Nat → Int64) (hLN : n < N) (hN : N < 2 ^ 20) : StdR l y_J_copyOf_l (wd y_J_copyOf_l b_J_copyOf_l 3 (some (.array .long))) 1 28 1 N (dC, dI) classes (tyK cI cL cB) [.ref a, .int (nI N)] [(a, .inl (cL, n, .inr (.inl fn)))] (fun (r : Nat) (u : Unit) => True) (fun (u : Unit) (r : Nat) => [(a, .inl (cL, n, .inr (.inl fn))), (r, .inl (cL, N, .inr (.inl (cpz fn (fun _ => 0) n))))]) := by
  refine StdR.mk (cc := b_J_copyOf_l) (maxL := 3) (Or.inr ⟨_, rfl⟩) (by decide) rfl (Nat.le_of_ble_eq_true rfl) ?_
  intro p e s m below meth c A Z ls hx hb hml hown hts hin hP hK hD hA hS hret hl
  have hown : s.vm.findClass "java/util/Arrays" = some m.cls := hown
  have hw : ∀ x ∈ WALL, x.before _ s = true := fun x h => hts x (List.mem_cons_of_mem _ h)
  have hl : lv_has ls 3 [(0, .ref a), (1, .int (nI N))] := hl
  refine lv_iload_n hx hb d_J_copyOf_l_0 rfl (lv_at hl 1 rfl) ?_
  refine lv_aload_n hx hb d_J_copyOf_l_1 rfl (lv_at hl 0 rfl) ?_
  refine fz_alen hx hb hK hP 0 1 rfl rfl d_J_copyOf_l_2 ?_
  refine lv_icmp_ne (tgt := 14) hx hb d_J_copyOf_l_3 (by decide) (fun c3 => ?_) (fun c3 => ?_)
  · have c3 : ¬ N = n := fun h => c3 (by exact (nI_eq (by omega) (by omega)).mpr h)
    refine lv_iload_n hx hb d_J_copyOf_l_14 rfl (lv_at hl 1 rfl) ?_
    refine fz_newl hx hb (hw _ m_81) hK 1 rfl hP hD hS hA (by omega) (by (try dsimp only); omega) (by (try dsimp only); omega) d_J_copyOf_l_15 (fun q_1 H hP hD hS => ?_)
    have hP : va_P (dC, dI) classes [(a, .inl (cL, n, .inr (.inl fn))), (q_1, .inl (cL, N, .inr (.inl (fun _ => 0))))] H := hP
    have hD : va_D A [(a, .inl (cL, n, .inr (.inl fn))), (q_1, .inl (cL, N, .inr (.inl (fun _ => 0))))] := hD
    refine W.widen (k := 1) (n := N) (by omega) (by omega) ?_
    refine lv_astore_n (lv' := [(2, .ref q_1), (0, .ref a), (1, .int (nI N))]) hx hb d_J_copyOf_l_17 rfl hl (by decide) rfl (fun ls hl => ?_)
    refine lv_aload_n hx hb d_J_copyOf_l_18 rfl (lv_at hl 1 rfl) ?_
    refine lv_iconst (v := nI 0) hx hb d_J_copyOf_l_19 (by decide) ?_
    refine lv_aload_n hx hb d_J_copyOf_l_20 rfl (lv_at hl 0 rfl) ?_
    refine lv_iconst (v := nI 0) hx hb d_J_copyOf_l_21 (by decide) ?_
    refine lv_aload_n hx hb d_J_copyOf_l_22 rfl (lv_at hl 1 rfl) ?_
    refine fz_alen hx hb hK hP 0 1 rfl rfl d_J_copyOf_l_23 ?_
    refine lv_iload_n hx hb d_J_copyOf_l_24 rfl (lv_at hl 2 rfl) ?_
    refine va_mmin hx hb (hml.trans hl.1.symm) hown (hw _ m_121) (hw _ m_109) (hw _ m_5) (hw _ m_110) (Nat.le_of_ble_eq_true rfl) (Nat.le_of_ble_eq_true rfl) (by (try dsimp only); omega) (by (try dsimp only); omega) d_J_copyOf_l_25 ?_
    refine fz_eqi (y := nI n) (fz_minN (by omega) (by omega) (if_neg (by omega))) ?_
    refine fz_cpyl hx hb (hml.trans hl.1.symm) hown (hw _ m_122) (hw _ m_124) (hw _ m_123) (hw _ m_7) hK hP hD hS 0 1 1 rfl rfl rfl (by omega) (by omega) (by omega) (Nat.le_of_ble_eq_true rfl) (Nat.le_of_ble_eq_true rfl) d_J_copyOf_l_28 (fun H locs hP hD hS => ?_)
    have hP : va_P (dC, dI) classes [(a, .inl (cL, n, .inr (.inl fn))), (q_1, .inl (cL, N, .inr (.inl (cpz fn (fun _ => 0) n))))] H := hP
    have hD : va_D A [(a, .inl (cL, n, .inr (.inl fn))), (q_1, .inl (cL, N, .inr (.inl (cpz fn (fun _ => 0) n))))] := hD
    refine lv_aload_n hx hb d_J_copyOf_l_31 rfl (lv_at hl 0 rfl) ?_
    exact hret q_1 () _ _ 32 ls trivial hP hD hS d_J_copyOf_l_32
  · have c3 : N = n := by exact (nI_eq (by omega) (by omega)).mp c3
    exact absurd c3 (by omega)
set_option maxHeartbeats 4000000 in
set_option maxRecDepth 100000 in
/-- Arrays.copyOf -/
theorem c_copyOf_b (l : Launch) (dC : Nat → ClassId) (dI : Nat → Nat → Nat) (cI cL cB : ClassId) (a : Nat) (n : Nat) (N : Nat) (fn : Nat → Nat) (hLN : n < N) (hN : N < 2 ^ 20) (hfit : ∀ i, fn i < 128) : StdR l y_J_copyOf_b (wd y_J_copyOf_b b_J_copyOf_b 3 (some (.array .byte))) 1 28 1 N (dC, dI) classes (tyK cI cL cB) [.ref a, .int (nI N)] [(a, .inl (cB, n, .inl (nf fn)))] (fun (r : Nat) (u : Unit) => True) (fun (u : Unit) (r : Nat) => [(a, .inl (cB, n, .inl (nf fn))), (r, .inl (cB, N, .inl (nf (cpz fn (fun _ => 0) n))))]) := by
  refine StdR.mk (cc := b_J_copyOf_b) (maxL := 3) (Or.inr ⟨_, rfl⟩) (by decide) rfl (Nat.le_of_ble_eq_true rfl) ?_
  intro p e s m below meth c A Z ls hx hb hml hown hts hin hP hK hD hA hS hret hl
  have hown : s.vm.findClass "java/util/Arrays" = some m.cls := hown
  have hw : ∀ x ∈ WALL, x.before _ s = true := fun x h => hts x (List.mem_cons_of_mem _ h)
  have hl : lv_has ls 3 [(0, .ref a), (1, .int (nI N))] := hl
  refine lv_iload_n hx hb d_J_copyOf_b_0 rfl (lv_at hl 1 rfl) ?_
  refine lv_aload_n hx hb d_J_copyOf_b_1 rfl (lv_at hl 0 rfl) ?_
  refine fz_alen hx hb hK hP 0 2 rfl rfl d_J_copyOf_b_2 ?_
  refine lv_icmp_ne (tgt := 14) hx hb d_J_copyOf_b_3 (by decide) (fun c3 => ?_) (fun c3 => ?_)
  · have c3 : ¬ N = n := fun h => c3 (by exact (nI_eq (by omega) (by omega)).mpr h)
    refine lv_iload_n hx hb d_J_copyOf_b_14 rfl (lv_at hl 1 rfl) ?_
    refine fz_newb hx hb (hw _ m_82) hK 2 rfl hP hD hS hA (by omega) (by (try dsimp only); omega) (by (try dsimp only); omega) d_J_copyOf_b_15 (fun q_1 H hP hD hS => ?_)
    have hP : va_P (dC, dI) classes [(a, .inl (cB, n, .inl (nf fn))), (q_1, .inl (cB, N, .inl (nf (fun _ => 0))))] H := hP
    have hD : va_D A [(a, .inl (cB, n, .inl (nf fn))), (q_1, .inl (cB, N, .inl (nf (fun _ => 0))))] := hD
    refine W.widen (k := 1) (n := N) (by omega) (by omega) ?_
    refine lv_astore_n (lv' := [(2, .ref q_1), (0, .ref a), (1, .int (nI N))]) hx hb d_J_copyOf_b_17 rfl hl (by decide) rfl (fun ls hl => ?_)
    refine lv_aload_n hx hb d_J_copyOf_b_18 rfl (lv_at hl 1 rfl) ?_
    refine lv_iconst (v := nI 0) hx hb d_J_copyOf_b_19 (by decide) ?_
    refine lv_aload_n hx hb d_J_copyOf_b_20 rfl (lv_at hl 0 rfl) ?_
    refine lv_iconst (v := nI 0) hx hb d_J_copyOf_b_21 (by decide) ?_
    refine lv_aload_n hx hb d_J_copyOf_b_22 rfl (lv_at hl 1 rfl) ?_
    refine fz_alen hx hb hK hP 0 2 rfl rfl d_J_copyOf_b_23 ?_
    refine lv_iload_n hx hb d_J_copyOf_b_24 rfl (lv_at hl 2 rfl) ?_
    refine va_mmin hx hb (hml.trans hl.1.symm) hown (hw _ m_121) (hw _ m_109) (hw _ m_5) (hw _ m_110) (Nat.le_of_ble_eq_true rfl) (Nat.le_of_ble_eq_true rfl) (by (try dsimp only); omega) (by (try dsimp only); omega) d_J_copyOf_b_25 ?_
    refine fz_eqi (y := nI n) (fz_minN (by omega) (by omega) (if_neg (by omega))) ?_
    refine fz_cpyb hx hb (hml.trans hl.1.symm) hown (hw _ m_122) (hw _ m_124) (hw _ m_123) (hw _ m_7) hK hP hD hS 0 1 2 rfl rfl rfl (fun i _ => fz_fitb (hfit i)) (by omega) (by omega) (by omega) (Nat.le_of_ble_eq_true rfl) (Nat.le_of_ble_eq_true rfl) d_J_copyOf_b_28 (fun H locs hP hD hS => ?_)
    have hP : va_P (dC, dI) classes [(a, .inl (cB, n, .inl (nf fn))), (q_1, .inl (cB, N, .inl (nf (cpz fn (fun _ => 0) n))))] H := hP
    have hD : va_D A [(a, .inl (cB, n, .inl (nf fn))), (q_1, .inl (cB, N, .inl (nf (cpz fn (fun _ => 0) n))))] := hD
    refine lv_aload_n hx hb d_J_copyOf_b_31 rfl (lv_at hl 0 rfl) ?_
    exact hret q_1 () _ _ 32 ls trivial hP hD hS d_J_copyOf_b_32
  · have c3 : N = n := by exact (nI_eq (by omega) (by omega)).mp c3
    exact absurd c3 (by omega)
set_option maxHeartbeats 4000000 in
set_option maxRecDepth 100000 in
/-- Arrays.fill -/
theorem c_fill0 (l : Launch) (dC : Nat → ClassId) (dI : Nat → Nat → Nat) (cI cL cB : ClassId) (a : Nat) (n : Nat) (x : Nat) (fn : Nat → Nat) (hn : n < 2 ^ 20) : StdV l y_J_fill (wd y_J_fill b_J_fill 4 none) 0 0 0 0 (dC, dI) classes (tyK cI cL cB) [.ref a, .int (nI x)] [(a, .inl (cI, n, .inl (nf fn)))] (fun (u : Unit) => True) (fun (u : Unit) => [(a, .inl (cI, n, .inl (nf (cpz (fun _ => x) fn n))))]) := by
  refine StdV.mk (cc := b_J_fill) (maxL := 4) (by decide) rfl (Nat.le_of_ble_eq_true rfl) ?_
  intro p e s m below meth c A Z ls hx hb hml hown hts hin hP hK hD hA hS hret hl
  have hown : s.vm.findClass "java/util/Arrays" = some m.cls := hown
  have hw : ∀ x ∈ WALL, x.before _ s = true := fun x h => hts x (List.mem_cons_of_mem _ h)
  have hl : lv_has ls 4 [(0, .ref a), (1, .int (nI x))] := hl
  refine lv_iconst (v := nI 0) hx hb d_J_fill_0 (by decide) ?_
  refine lv_istore_n (lv' := [(2, .int (nI 0)), (0, .ref a), (1, .int (nI x))]) hx hb d_J_fill_1 rfl hl (by decide) rfl (fun ls hl => ?_)
  refine lv_aload_n hx hb d_J_fill_2 rfl (lv_at hl 1 rfl) ?_
  refine fz_alen hx hb hK hP 0 0 rfl rfl d_J_fill_3 ?_
  refine lv_istore_n (lv' := [(3, .int (nI n)), (2, .int (nI 0)), (0, .ref a), (1, .int (nI x))]) hx hb d_J_fill_4 rfl hl (by decide) rfl (fun ls hl => ?_)
  have loop_5 : ∀ (fuel : Nat) (i : Nat) (fn2 : Nat → Nat), i ≤ n → fn2 = cpz (fun _ => x) fn i → n - i < fuel → ∀ (H : Heap) (locs : List Loc), va_P (dC, dI) classes [(a, .inl (cI, n, .inl (nf fn2)))] H → va_D A [(a, .inl (cI, n, .inl (nf fn2)))] → va_S A s.heap H locs → ∀ (ls : Array Slot), lv_has ls 4 [(0, .ref a), (1, .int (nI x)), (2, .int (nI i)), (3, .int (nI n))] → W p l e { frames := 0, cells := 0, slots := 0, locals := 0 } s m [.ref a, .int (nI x)].toArray below meth c H locs 0 0 Z (F0 m 5 ls []) := by
    intro fuel
    induction fuel with
    | zero => intro i fn2 hi hf2 hfuel; exact absurd hfuel (Nat.not_lt_zero _)
    | succ fuel ih =>
      intro i fn2 hi hf2 hfuel H locs hP hD hS ls hl
      refine lv_iload_n hx hb d_J_fill_5 rfl (lv_at hl 2 rfl) ?_
      refine lv_iload_n hx hb d_J_fill_6 rfl (lv_at hl 3 rfl) ?_
      refine lv_icmp_ge (tgt := 20) hx hb d_J_fill_7 (by decide) (fun c7 => ?_) (fun c7 => ?_)
      · have c7 : n ≤ i := by exact (nI_leI (by omega) (by omega)).mp c7
        have hin2 : i = n := by omega
        subst hin2
        subst hf2
        exact hret () _ _ 20 ls trivial hP hD hS d_J_fill_20
      · have c7 : ¬ n ≤ i := fun h => c7 (by exact (nI_leI (by omega) (by omega)).mpr h)
        refine lv_aload_n hx hb d_J_fill_10 rfl (lv_at hl 0 rfl) ?_
        refine lv_iload_n hx hb d_J_fill_11 rfl (lv_at hl 2 rfl) ?_
        refine lv_iload_n hx hb d_J_fill_12 rfl (lv_at hl 1 rfl) ?_
        refine fz_iast hx hb hK hP hD hS 0 0 rfl rfl (j := i) (by omega) (by omega) d_J_fill_13 (fun H locs hP hD hS => ?_)
        have hP : va_P (dC, dI) classes [(a, .inl (cI, n, .inl (nf (va_up fn2 i x))))] H := hP
        have hD : va_D A [(a, .inl (cI, n, .inl (nf (va_up fn2 i x))))] := hD
        refine lv_iinc (v := nI (i + 1)) (lv' := [(2, .int (nI (i + 1))), (0, .ref a), (1, .int (nI x)), (3, .int (nI n))]) hx hb d_J_fill_14 hl (k := 2) rfl (fz_inc i) (by decide) rfl (fun ls hl => ?_)
        refine lv_goto (tgt := 5) hx hb d_J_fill_17 (by decide) ?_
        exact ih (i + 1) (va_up fn2 i x) (by omega) (by rw [hf2, cpz_step]) (by omega) _ _ hP hD hS ls (lv_sub hl [1, 2, 0, 3] rfl)
  exact loop_5 (n - 0 + 1) 0 fn (by omega) (cpz_0 _ _).symm (Nat.lt_succ_self _) _ _ hP hD hS ls (lv_sub hl [2, 3, 1, 0] rfl)
set_option maxHeartbeats 4000000 in
set_option maxRecDepth 100000 in
/-- setValue -/
theorem c_setValue (l : Launch) (dC : Nat → ClassId) (dI : Nat → Nat → Nat) (cI cL cB : ClassId) (f : Nat) (a1 : Nat) (a2 : Nat) (a3 : Nat) (a4 : Nat) (a5 : Nat) (a6 : Nat) (cnt : Nat) (L : Nat) (i : Nat) (kind : Nat) (num : Int64) (kd : Nat → Nat) (nu : Nat → Int64) (hi : i < L) (hL : L < 2 ^ 20) (hk : kind < 128) : StdV l y_S_setValue (wd y_S_setValue b_S_setValue 5 none) 0 0 0 0 (dC, dI) classes (tyK cI cL cB) [.ref f, .int (nI i), .int (nI kind), .long num] [(f, .inr (2, [.int (nI cnt), .ref a1, .ref a2, .ref a3, .ref a4, .ref a5, .ref a6])), (a3, .inl (cB, L, .inl (nf kd))), (a4, .inl (cL, L, .inr (.inl nu)))] (fun (u : Unit) => True) (fun (u : Unit) => [(f, .inr (2, [.int (nI cnt), .ref a1, .ref a2, .ref a3, .ref a4, .ref a5, .ref a6])), (a3, .inl (cB, L, .inl (nf (va_up kd i kind)))), (a4, .inl (cL, L, .inr (.inl (vp_updL nu i (if kind = 0 then 0 else num)))))]) := by
  refine StdV.mk (cc := b_S_setValue) (maxL := 5) (by decide) rfl (Nat.le_of_ble_eq_true rfl) ?_
  intro p e s m below meth c A Z ls hx hb hml hown hts hin hP hK hD hA hS hret hl
  have hown : s.vm.findClass R_S = some m.cls := hown
  have hw : ∀ x ∈ WALL, x.before _ s = true := fun x h => hts x (List.mem_cons_of_mem _ h)
  have hl : lv_has ls 5 [(0, .ref f), (1, .int (nI i)), (2, .int (nI kind)), (3, .long num)] := hl
  refine lv_aload_n hx hb d_S_setValue_0 rfl (lv_at hl 0 rfl) ?_
  refine va_get (D := (dC, dI)) (ci := 2) (v := .ref a3) (C := R_S) (T := T_S) (N := 7) hx hb hw in_S hown hK hP 0 rfl rfl 3 (by decide) (hw _ m_59) (fun _ h9 => h9) rfl d_S_setValue_1 ?_
  refine lv_iload_n hx hb d_S_setValue_4 rfl (lv_at hl 1 rfl) ?_
  refine lv_iload_n hx hb d_S_setValue_5 rfl (lv_at hl 2 rfl) ?_
  refine lv_i2b (v := nI kind) hx hb d_S_setValue_6 (fz_i2b (by omega)) ?_
  refine fz_bast hx hb hK hP hD hS 1 2 rfl rfl (j := i) (fz_nb (by omega)) (by omega) (by omega) d_S_setValue_7 (fun H locs hP hD hS => ?_)
  have hP : va_P (dC, dI) classes [(f, .inr (2, [.int (nI cnt), .ref a1, .ref a2, .ref a3, .ref a4, .ref a5, .ref a6])), (a3, .inl (cB, L, .inl (nf (va_up kd i kind)))), (a4, .inl (cL, L, .inr (.inl nu)))] H := hP
  have hD : va_D A [(f, .inr (2, [.int (nI cnt), .ref a1, .ref a2, .ref a3, .ref a4, .ref a5, .ref a6])), (a3, .inl (cB, L, .inl (nf (va_up kd i kind)))), (a4, .inl (cL, L, .inr (.inl nu)))] := hD
  refine lv_aload_n hx hb d_S_setValue_8 rfl (lv_at hl 0 rfl) ?_
  refine va_get (D := (dC, dI)) (ci := 2) (v := .ref a4) (C := R_S) (T := T_S) (N := 7) hx hb hw in_S hown hK hP 0 rfl rfl 4 (by decide) (hw _ m_61) (fun _ h9 => h9) rfl d_S_setValue_9 ?_
  refine lv_iload_n hx hb d_S_setValue_12 rfl (lv_at hl 1 rfl) ?_
  refine lv_iload_n hx hb d_S_setValue_13 rfl (lv_at hl 2 rfl) ?_
  refine lv_if_ne (tgt := 21) hx hb d_S_setValue_14 (by decide) (fun c14 => ?_) (fun c14 => ?_)
  · have c14 : ¬ kind = 0 := fun h => c14 (((nI_eq (by omega) (by omega)).mpr h).trans nI_0)
    refine lv_lload_n hx hb d_S_setValue_21 rfl (lv_at hl 3 rfl) ?_
    refine fz_eql (y := if kind = 0 then 0 else num) (if_neg c14).symm ?_
    refine fz_last hx hb hK hP hD hS 2 1 rfl rfl (j := i) (by omega) (by omega) d_S_setValue_22 (fun H locs hP hD hS => ?_)
    have hP : va_P (dC, dI) classes [(f, .inr (2, [.int (nI cnt), .ref a1, .ref a2, .ref a3, .ref a4, .ref a5, .ref a6])), (a3, .inl (cB, L, .inl (nf (va_up kd i kind)))), (a4, .inl (cL, L, .inr (.inl (vp_updL nu i (if kind = 0 then 0 else num)))))] H := hP
    have hD : va_D A [(f, .inr (2, [.int (nI cnt), .ref a1, .ref a2, .ref a3, .ref a4, .ref a5, .ref a6])), (a3, .inl (cB, L, .inl (nf (va_up kd i kind)))), (a4, .inl (cL, L, .inr (.inl (vp_updL nu i (if kind = 0 then 0 else num)))))] := hD
    exact hret () _ _ 23 ls trivial hP hD hS d_S_setValue_23
  · have c14 : kind = 0 := (nI_eq (by omega) (by omega)).mp (c14.trans nI_0.symm)
    refine lv_lconst (v := lN 0) hx hb d_S_setValue_17 rfl ?_
    refine lv_goto (tgt := 22) hx hb d_S_setValue_18 (by decide) ?_
    refine fz_eql (y := if kind = 0 then 0 else num) (by rw [if_pos c14]; rfl) ?_
    refine fz_last hx hb hK hP hD hS 2 1 rfl rfl (j := i) (by omega) (by omega) d_S_setValue_22 (fun H locs hP hD hS => ?_)
    have hP : va_P (dC, dI) classes [(f, .inr (2, [.int (nI cnt), .ref a1, .ref a2, .ref a3, .ref a4, .ref a5, .ref a6])), (a3, .inl (cB, L, .inl (nf (va_up kd i kind)))), (a4, .inl (cL, L, .inr (.inl (vp_updL nu i (if kind = 0 then 0 else num)))))] H := hP
    have hD : va_D A [(f, .inr (2, [.int (nI cnt), .ref a1, .ref a2, .ref a3, .ref a4, .ref a5, .ref a6])), (a3, .inl (cB, L, .inl (nf (va_up kd i kind)))), (a4, .inl (cL, L, .inr (.inl (vp_updL nu i (if kind = 0 then 0 else num)))))] := hD
    exact hret () _ _ 23 ls trivial hP hD hS d_S_setValue_23
set_option maxHeartbeats 4000000 in
set_option maxRecDepth 100000 in
/-- copyValue -/
theorem c_copyValue (l : Launch) (dC : Nat → ClassId) (dI : Nat → Nat → Nat) (cI cL cB : ClassId) (f : Nat) (a1 : Nat) (a2 : Nat) (a3 : Nat) (a4 : Nat) (a5 : Nat) (a6 : Nat) (cnt : Nat) (L : Nat) (i : Nat) (j : Nat) (kd : Nat → Nat) (nu : Nat → Int64) (hi : i < L) (hj : j < L) (hL : L < 2 ^ 20) (hk : kd j < 128) : StdV l y_S_copyValue (wd y_S_copyValue b_S_copyValue 3 none) 0 0 0 0 (dC, dI) classes (tyK cI cL cB) [.ref f, .int (nI i), .int (nI j)] [(f, .inr (2, [.int (nI cnt), .ref a1, .ref a2, .ref a3, .ref a4, .ref a5, .ref a6])), (a3, .inl (cB, L, .inl (nf kd))), (a4, .inl (cL, L, .inr (.inl nu)))] (fun (u : Unit) => True) (fun (u : Unit) => [(f, .inr (2, [.int (nI cnt), .ref a1, .ref a2, .ref a3, .ref a4, .ref a5, .ref a6])), (a3, .inl (cB, L, .inl (nf (va_up kd i (kd j))))), (a4, .inl (cL, L, .inr (.inl (vp_updL nu i (nu j)))))]) := by
  refine StdV.mk (cc := b_S_copyValue) (maxL := 3) (by decide) rfl (Nat.le_of_ble_eq_true rfl) ?_
  intro p e s m below meth c A Z ls hx hb hml hown hts hin hP hK hD hA hS hret hl
  have hown : s.vm.findClass R_S = some m.cls := hown
  have hw : ∀ x ∈ WALL, x.before _ s = true := fun x h => hts x (List.mem_cons_of_mem _ h)
  have hl : lv_has ls 3 [(0, .ref f), (1, .int (nI i)), (2, .int (nI j))] := hl
  refine lv_aload_n hx hb d_S_copyValue_0 rfl (lv_at hl 0 rfl) ?_
  refine va_get (D := (dC, dI)) (ci := 2) (v := .ref a3) (C := R_S) (T := T_S) (N := 7) hx hb hw in_S hown hK hP 0 rfl rfl 3 (by decide) (hw _ m_59) (fun _ h9 => h9) rfl d_S_copyValue_1 ?_
  refine lv_iload_n hx hb d_S_copyValue_4 rfl (lv_at hl 1 rfl) ?_
  refine lv_aload_n hx hb d_S_copyValue_5 rfl (lv_at hl 0 rfl) ?_
  refine va_get (D := (dC, dI)) (ci := 2) (v := .ref a3) (C := R_S) (T := T_S) (N := 7) hx hb hw in_S hown hK hP 0 rfl rfl 3 (by decide) (hw _ m_59) (fun _ h9 => h9) rfl d_S_copyValue_6 ?_
  refine lv_iload_n hx hb d_S_copyValue_9 rfl (lv_at hl 2 rfl) ?_
  refine fz_bald hx hb hK hP 1 2 rfl rfl (j := j) (by omega) (by omega) d_S_copyValue_10 ?_
  refine fz_bast hx hb hK hP hD hS 1 2 rfl rfl (j := i) (fz_nb (by omega)) (by omega) (by omega) d_S_copyValue_11 (fun H locs hP hD hS => ?_)
  have hP : va_P (dC, dI) classes [(f, .inr (2, [.int (nI cnt), .ref a1, .ref a2, .ref a3, .ref a4, .ref a5, .ref a6])), (a3, .inl (cB, L, .inl (nf (va_up kd i (kd j))))), (a4, .inl (cL, L, .inr (.inl nu)))] H := hP
  have hD : va_D A [(f, .inr (2, [.int (nI cnt), .ref a1, .ref a2, .ref a3, .ref a4, .ref a5, .ref a6])), (a3, .inl (cB, L, .inl (nf (va_up kd i (kd j))))), (a4, .inl (cL, L, .inr (.inl nu)))] := hD
  refine lv_aload_n hx hb d_S_copyValue_12 rfl (lv_at hl 0 rfl) ?_
  refine va_get (D := (dC, dI)) (ci := 2) (v := .ref a4) (C := R_S) (T := T_S) (N := 7) hx hb hw in_S hown hK hP 0 rfl rfl 4 (by decide) (hw _ m_61) (fun _ h9 => h9) rfl d_S_copyValue_13 ?_
  refine lv_iload_n hx hb d_S_copyValue_16 rfl (lv_at hl 1 rfl) ?_
  refine lv_aload_n hx hb d_S_copyValue_17 rfl (lv_at hl 0 rfl) ?_
  refine va_get (D := (dC, dI)) (ci := 2) (v := .ref a4) (C := R_S) (T := T_S) (N := 7) hx hb hw in_S hown hK hP 0 rfl rfl 4 (by decide) (hw _ m_61) (fun _ h9 => h9) rfl d_S_copyValue_18 ?_
  refine lv_iload_n hx hb d_S_copyValue_21 rfl (lv_at hl 2 rfl) ?_
  refine fz_lald hx hb hK hP 2 1 rfl rfl (j := j) (by omega) (by omega) d_S_copyValue_22 ?_
  refine fz_last hx hb hK hP hD hS 2 1 rfl rfl (j := i) (by omega) (by omega) d_S_copyValue_23 (fun H locs hP hD hS => ?_)
  have hP : va_P (dC, dI) classes [(f, .inr (2, [.int (nI cnt), .ref a1, .ref a2, .ref a3, .ref a4, .ref a5, .ref a6])), (a3, .inl (cB, L, .inl (nf (va_up kd i (kd j))))), (a4, .inl (cL, L, .inr (.inl (vp_updL nu i (nu j)))))] H := hP
  have hD : va_D A [(f, .inr (2, [.int (nI cnt), .ref a1, .ref a2, .ref a3, .ref a4, .ref a5, .ref a6])), (a3, .inl (cB, L, .inl (nf (va_up kd i (kd j))))), (a4, .inl (cL, L, .inr (.inl (vp_updL nu i (nu j)))))] := hD
  exact hret () _ _ 24 ls trivial hP hD hS d_S_copyValue_24
set_option maxHeartbeats 4000000 in
set_option maxRecDepth 100000 in
/-- swapValues -/
theorem c_swapValues (l : Launch) (dC : Nat → ClassId) (dI : Nat → Nat → Nat) (cI cL cB : ClassId) (f : Nat) (a1 : Nat) (a2 : Nat) (a3 : Nat) (a4 : Nat) (a5 : Nat) (a6 : Nat) (cnt : Nat) (L : Nat) (i : Nat) (j : Nat) (kd : Nat → Nat) (nu : Nat → Int64) (hi : i < L) (hj : j < L) (hL : L < 2 ^ 20) (hk : kd j < 128) (hk2 : kd i < 128) : StdV l y_S_swapValues (wd y_S_swapValues b_S_swapValues 6 none) 1 22 0 0 (dC, dI) classes (tyK cI cL cB) [.ref f, .int (nI i), .int (nI j)] [(f, .inr (2, [.int (nI cnt), .ref a1, .ref a2, .ref a3, .ref a4, .ref a5, .ref a6])), (a3, .inl (cB, L, .inl (nf kd))), (a4, .inl (cL, L, .inr (.inl nu)))] (fun (u : Unit) => True) (fun (u : Unit) => [(f, .inr (2, [.int (nI cnt), .ref a1, .ref a2, .ref a3, .ref a4, .ref a5, .ref a6])), (a3, .inl (cB, L, .inl (nf (va_up (va_up kd i (kd j)) j (kd i))))), (a4, .inl (cL, L, .inr (.inl (vp_updL (vp_updL nu i (nu j)) j (nu i)))))]) := by
  refine StdV.mk (cc := b_S_swapValues) (maxL := 6) (by decide) rfl (Nat.le_of_ble_eq_true rfl) ?_
  intro p e s m below meth c A Z ls hx hb hml hown hts hin hP hK hD hA hS hret hl
  have hown : s.vm.findClass R_S = some m.cls := hown
  have hw : ∀ x ∈ WALL, x.before _ s = true := fun x h => hts x (List.mem_cons_of_mem _ h)
  have hl : lv_has ls 6 [(0, .ref f), (1, .int (nI i)), (2, .int (nI j))] := hl
  refine lv_aload_n hx hb d_S_swapValues_0 rfl (lv_at hl 0 rfl) ?_
  refine va_get (D := (dC, dI)) (ci := 2) (v := .ref a3) (C := R_S) (T := T_S) (N := 7) hx hb hw in_S hown hK hP 0 rfl rfl 3 (by decide) (hw _ m_59) (fun _ h9 => h9) rfl d_S_swapValues_1 ?_
  refine lv_iload_n hx hb d_S_swapValues_4 rfl (lv_at hl 1 rfl) ?_
  refine fz_bald hx hb hK hP 1 2 rfl rfl (j := i) (by omega) (by omega) d_S_swapValues_5 ?_
  refine lv_istore_n (lv' := [(3, .int (nI (kd i))), (0, .ref f), (1, .int (nI i)), (2, .int (nI j))]) hx hb d_S_swapValues_6 rfl hl (by decide) rfl (fun ls hl => ?_)
  refine lv_aload_n hx hb d_S_swapValues_7 rfl (lv_at hl 1 rfl) ?_
  refine va_get (D := (dC, dI)) (ci := 2) (v := .ref a4) (C := R_S) (T := T_S) (N := 7) hx hb hw in_S hown hK hP 0 rfl rfl 4 (by decide) (hw _ m_61) (fun _ h9 => h9) rfl d_S_swapValues_8 ?_
  refine lv_iload_n hx hb d_S_swapValues_11 rfl (lv_at hl 2 rfl) ?_
  refine fz_lald hx hb hK hP 2 1 rfl rfl (j := i) (by omega) (by omega) d_S_swapValues_12 ?_
  refine lv_lstore (lv' := [(4, .long (nu i)), (3, .int (nI (kd i))), (0, .ref f), (1, .int (nI i)), (2, .int (nI j))]) hx hb d_S_swapValues_13 hl (by decide) rfl (fun ls hl => ?_)
  refine lv_aload_n hx hb d_S_swapValues_15 rfl (lv_at hl 2 rfl) ?_
  refine lv_iload_n hx hb d_S_swapValues_16 rfl (lv_at hl 3 rfl) ?_
  refine lv_iload_n hx hb d_S_swapValues_17 rfl (lv_at hl 4 rfl) ?_
  refine StdV.callV (ci := 2) (q0 := 0) (wr := []) (c_copyValue l dC dI cI cL cB f a1 a2 a3 a4 a5 a6 cnt L i j kd nu (by omega) (by omega) (by omega) (by omega)) ⟨hx, hb, hml, hown, hw⟩ (fz_cwV 2 hw m_294 m_311 m_292 m_293 m_3 rfl rfl (by decide +kernel) ⟨Nat.le_of_ble_eq_true rfl, Nat.le_of_ble_eq_true rfl⟩) hK hP hD hS hA [0, 1, 2] [] rfl rfl (by decide) (by decide) (by decide) rfl rfl rfl rfl hl.1 rfl (Nat.le_of_ble_eq_true rfl) d_S_swapValues_18 ⟨(Nat.le_of_ble_eq_true rfl), (Nat.le_of_ble_eq_true rfl)⟩ (fun u18 H locs h18 hP hD hS => ?_)
  try dsimp only at h18
  have hP : va_P (dC, dI) classes [(f, .inr (2, [.int (nI cnt), .ref a1, .ref a2, .ref a3, .ref a4, .ref a5, .ref a6])), (a3, .inl (cB, L, .inl (nf (va_up kd i (kd j))))), (a4, .inl (cL, L, .inr (.inl (vp_updL nu i (nu j)))))] H := hP
  have hD : va_D A [(f, .inr (2, [.int (nI cnt), .ref a1, .ref a2, .ref a3, .ref a4, .ref a5, .ref a6])), (a3, .inl (cB, L, .inl (nf (va_up kd i (kd j))))), (a4, .inl (cL, L, .inr (.inl (vp_updL nu i (nu j)))))] := hD
  refine lv_aload_n hx hb d_S_swapValues_21 rfl (lv_at hl 2 rfl) ?_
  refine va_get (D := (dC, dI)) (ci := 2) (v := .ref a3) (C := R_S) (T := T_S) (N := 7) hx hb hw in_S hown hK hP 0 rfl rfl 3 (by decide) (hw _ m_59) (fun _ h9 => h9) rfl d_S_swapValues_22 ?_
  refine lv_iload_n hx hb d_S_swapValues_25 rfl (lv_at hl 4 rfl) ?_
  refine lv_iload_n hx hb d_S_swapValues_26 rfl (lv_at hl 1 rfl) ?_
  refine fz_bast hx hb hK hP hD hS 1 2 rfl rfl (j := j) (fz_nb (by omega)) (by omega) (by omega) d_S_swapValues_27 (fun H locs hP hD hS => ?_)
  have hP : va_P (dC, dI) classes [(f, .inr (2, [.int (nI cnt), .ref a1, .ref a2, .ref a3, .ref a4, .ref a5, .ref a6])), (a3, .inl (cB, L, .inl (nf (va_up (va_up kd i (kd j)) j (kd i))))), (a4, .inl (cL, L, .inr (.inl (vp_updL nu i (nu j)))))] H := hP
  have hD : va_D A [(f, .inr (2, [.int (nI cnt), .ref a1, .ref a2, .ref a3, .ref a4, .ref a5, .ref a6])), (a3, .inl (cB, L, .inl (nf (va_up (va_up kd i (kd j)) j (kd i))))), (a4, .inl (cL, L, .inr (.inl (vp_updL nu i (nu j)))))] := hD
  refine lv_aload_n hx hb d_S_swapValues_28 rfl (lv_at hl 2 rfl) ?_
  refine va_get (D := (dC, dI)) (ci := 2) (v := .ref a4) (C := R_S) (T := T_S) (N := 7) hx hb hw in_S hown hK hP 0 rfl rfl 4 (by decide) (hw _ m_61) (fun _ h9 => h9) rfl d_S_swapValues_29 ?_
  refine lv_iload_n hx hb d_S_swapValues_32 rfl (lv_at hl 4 rfl) ?_
  refine lv_lload hx hb d_S_swapValues_33 (lv_at hl 0 rfl) ?_
  refine fz_last hx hb hK hP hD hS 2 1 rfl rfl (j := j) (by omega) (by omega) d_S_swapValues_35 (fun H locs hP hD hS => ?_)
  have hP : va_P (dC, dI) classes [(f, .inr (2, [.int (nI cnt), .ref a1, .ref a2, .ref a3, .ref a4, .ref a5, .ref a6])), (a3, .inl (cB, L, .inl (nf (va_up (va_up kd i (kd j)) j (kd i))))), (a4, .inl (cL, L, .inr (.inl (vp_updL (vp_updL nu i (nu j)) j (nu i)))))] H := hP
  have hD : va_D A [(f, .inr (2, [.int (nI cnt), .ref a1, .ref a2, .ref a3, .ref a4, .ref a5, .ref a6])), (a3, .inl (cB, L, .inl (nf (va_up (va_up kd i (kd j)) j (kd i))))), (a4, .inl (cL, L, .inr (.inl (vp_updL (vp_updL nu i (nu j)) j (nu i)))))] := hD
  exact hret () _ _ 36 ls trivial hP hD hS d_S_swapValues_36
set_option maxHeartbeats 4000000 in
set_option maxRecDepth 100000 in
/-- sameValues -/
theorem c_sameValues (l : Launch) (dC : Nat → ClassId) (dI : Nat → Nat → Nat) (cI cL cB : ClassId) (f : Nat) (a1 : Nat) (a2 : Nat) (a3 : Nat) (a4 : Nat) (a5 : Nat) (a6 : Nat) (cnt : Nat) (L : Nat) (i : Nat) (j : Nat) (kd : Nat → Nat) (nu : Nat → Int64) (hi : i < L) (hj : j < L) (hL : L < 2 ^ 20) (hk : kd j < 128) (hk2 : kd i < 128) : QryI l y_S_sameValues (wd y_S_sameValues b_S_sameValues 3 (some .boolean)) 0 0 (dC, dI) classes (tyK cI cL cB) [.ref f, .int (nI i), .int (nI j)] [(f, .inr (2, [.int (nI cnt), .ref a1, .ref a2, .ref a3, .ref a4, .ref a5, .ref a6])), (a3, .inl (cB, L, .inl (nf kd))), (a4, .inl (cL, L, .inr (.inl nu)))] (fun r : Int32 => r = nI (if kd i = kd j ∧ nu i = nu j then 1 else 0)) := by
  refine QryZ.mk (cc := b_S_sameValues) (maxL := 3) (by decide) rfl (Nat.le_of_ble_eq_true rfl) ?_
  intro p e s m below meth c Z ls hx hb hml hown hts hP hK hret hl
  have hP : va_P (dC, dI) classes [(f, .inr (2, [.int (nI cnt), .ref a1, .ref a2, .ref a3, .ref a4, .ref a5, .ref a6])), (a3, .inl (cB, L, .inl (nf kd))), (a4, .inl (cL, L, .inr (.inl nu)))] s.heap := hP
  have hown : s.vm.findClass R_S = some m.cls := hown
  have hw : ∀ x ∈ WALL, x.before _ s = true := fun x h => hts x (List.mem_cons_of_mem _ h)
  have hl : lv_has ls 3 [(0, .ref f), (1, .int (nI i)), (2, .int (nI j))] := hl
  refine lv_aload_n hx hb d_S_sameValues_0 rfl (lv_at hl 0 rfl) ?_
  refine va_get (D := (dC, dI)) (ci := 2) (v := .ref a3) (C := R_S) (T := T_S) (N := 7) hx hb hw in_S hown hK hP 0 rfl rfl 3 (by decide) (hw _ m_59) (fun _ h9 => h9) rfl d_S_sameValues_1 ?_
  refine lv_iload_n hx hb d_S_sameValues_4 rfl (lv_at hl 1 rfl) ?_
  refine fz_bald hx hb hK hP 1 2 rfl rfl (j := i) (by omega) (by omega) d_S_sameValues_5 ?_
  refine lv_aload_n hx hb d_S_sameValues_6 rfl (lv_at hl 0 rfl) ?_
  refine va_get (D := (dC, dI)) (ci := 2) (v := .ref a3) (C := R_S) (T := T_S) (N := 7) hx hb hw in_S hown hK hP 0 rfl rfl 3 (by decide) (hw _ m_59) (fun _ h9 => h9) rfl d_S_sameValues_7 ?_
  refine lv_iload_n hx hb d_S_sameValues_10 rfl (lv_at hl 2 rfl) ?_
  refine fz_bald hx hb hK hP 1 2 rfl rfl (j := j) (by omega) (by omega) d_S_sameValues_11 ?_
  refine lv_icmp_ne (tgt := 35) hx hb d_S_sameValues_12 (by decide) (fun c12 => ?_) (fun c12 => ?_)
  · have c12 : ¬ kd i = kd j := fun h => c12 (by exact (nI_eq (by omega) (by omega)).mpr h)
    refine lv_iconst (v := nI 0) hx hb d_S_sameValues_35 (by decide) ?_
    exact hret (nI 0) 36 ls (Or.inl rfl) (by rw [if_neg (fun q => c12 q.1)]) d_S_sameValues_36
  · have c12 : kd i = kd j := by exact (nI_eq (by omega) (by omega)).mp c12
    refine lv_aload_n hx hb d_S_sameValues_15 rfl (lv_at hl 0 rfl) ?_
    refine va_get (D := (dC, dI)) (ci := 2) (v := .ref a4) (C := R_S) (T := T_S) (N := 7) hx hb hw in_S hown hK hP 0 rfl rfl 4 (by decide) (hw _ m_61) (fun _ h9 => h9) rfl d_S_sameValues_16 ?_
    refine lv_iload_n hx hb d_S_sameValues_19 rfl (lv_at hl 1 rfl) ?_
    refine fz_lald hx hb hK hP 2 1 rfl rfl (j := i) (by omega) (by omega) d_S_sameValues_20 ?_
    refine lv_aload_n hx hb d_S_sameValues_21 rfl (lv_at hl 0 rfl) ?_
    refine va_get (D := (dC, dI)) (ci := 2) (v := .ref a4) (C := R_S) (T := T_S) (N := 7) hx hb hw in_S hown hK hP 0 rfl rfl 4 (by decide) (hw _ m_61) (fun _ h9 => h9) rfl d_S_sameValues_22 ?_
    refine lv_iload_n hx hb d_S_sameValues_25 rfl (lv_at hl 2 rfl) ?_
    refine fz_lald hx hb hK hP 2 1 rfl rfl (j := j) (by omega) (by omega) d_S_sameValues_26 ?_
    refine W.lcmp hx hb d_S_sameValues_27 ?_
    refine lv_if_ne (tgt := 35) hx hb d_S_sameValues_28 (by decide) (fun c28 => ?_) (fun c28 => ?_)
    · have c28 : ¬ nu i = nu j := fun h => c28 ((lg_cmp_eq _ _).mpr h)
      refine lv_iconst (v := nI 0) hx hb d_S_sameValues_35 (by decide) ?_
      exact hret (nI 0) 36 ls (Or.inl rfl) (by rw [if_neg (fun q => c28 q.2)]) d_S_sameValues_36
    · have c28 : nu i = nu j := (lg_cmp_eq _ _).mp c28
      refine lv_iconst (v := nI 1) hx hb d_S_sameValues_31 (by decide) ?_
      refine lv_goto (tgt := 36) hx hb d_S_sameValues_32 (by decide) ?_
      exact hret (nI 1) 36 ls (Or.inr rfl) (by rw [if_pos ⟨c12, c28⟩]) d_S_sameValues_36
set_option maxHeartbeats 4000000 in
set_option maxRecDepth 100000 in
/-- FieldStore.forget -/
theorem c_Sforget (l : Launch) (dC : Nat → ClassId) (dI : Nat → Nat → Nat) (cI cL cB : ClassId) (f : Nat) (a1 : Nat) (a2 : Nat) (a3 : Nat) (a4 : Nat) (a5 : Nat) (a6 : Nat) (cnt : Nat) (M : Nat) (sn : Nat → Nat) (hM : M < 2 ^ 20) : StdV l y_S_forget (wd y_S_forget b_S_forget 1 none) 1 23 0 0 (dC, dI) classes (tyK cI cL cB) [.ref f] [(f, .inr (2, [.int (nI cnt), .ref a1, .ref a2, .ref a3, .ref a4, .ref a5, .ref a6])), (a6, .inl (cI, M, .inl (nf sn)))] (fun (u : Unit) => True) (fun (u : Unit) => [(f, .inr (2, [.int (nI 0), .ref a1, .ref a2, .ref a3, .ref a4, .ref a5, .ref a6])), (a6, .inl (cI, M, .inl (nf (cpz (fun _ => 0) sn M))))]) := by
  refine StdV.mk (cc := b_S_forget) (maxL := 1) (by decide) rfl (Nat.le_of_ble_eq_true rfl) ?_
  intro p e s m below meth c A Z ls hx hb hml hown hts hin hP hK hD hA hS hret hl
  have hown : s.vm.findClass R_S = some m.cls := hown
  have hw : ∀ x ∈ WALL, x.before _ s = true := fun x h => hts x (List.mem_cons_of_mem _ h)
  have hl : lv_has ls 1 [(0, .ref f)] := hl
  refine lv_aload_n hx hb d_S_forget_0 rfl (lv_at hl 0 rfl) ?_
  refine lv_iconst (v := nI 0) hx hb d_S_forget_1 (by decide) ?_
  refine va_put (D := (dC, dI)) (ci := 2) (v := .int (nI 0)) (ty := .int) (C := R_S) (T := T_S) (N := 7) hx hb hw in_S ty_S tyok_S nn_S hown hK hP hD hS 0 rfl rfl 0 (by decide) (hw _ m_54) (fun _ h9 => h9) rfl (by decide +kernel) rfl rfl (Nat.le_of_ble_eq_true rfl) d_S_forget_2 (fun H locs hP hD hS => ?_)
  have hP : va_P (dC, dI) classes [(f, .inr (2, [.int (nI 0), .ref a1, .ref a2, .ref a3, .ref a4, .ref a5, .ref a6])), (a6, .inl (cI, M, .inl (nf sn)))] H := hP
  have hD : va_D A [(f, .inr (2, [.int (nI 0), .ref a1, .ref a2, .ref a3, .ref a4, .ref a5, .ref a6])), (a6, .inl (cI, M, .inl (nf sn)))] := hD
  refine lv_aload_n hx hb d_S_forget_5 rfl (lv_at hl 0 rfl) ?_
  refine va_get (D := (dC, dI)) (ci := 2) (v := .ref a6) (C := R_S) (T := T_S) (N := 7) hx hb hw in_S hown hK hP 0 rfl rfl 6 (by decide) (hw _ m_65) (fun _ h9 => h9) rfl d_S_forget_6 ?_
  refine lv_iconst (v := nI 0) hx hb d_S_forget_9 (by decide) ?_
  refine StdV.callS (wr := [(f, .inr (2, [.int (nI 0), .ref a1, .ref a2, .ref a3, .ref a4, .ref a5, .ref a6]))]) (c_fill0 l dC dI cI cL cB a6 M 0 sn (by omega)) ⟨hx, hb, hml, hown, hw⟩ (fz_cwS 2 hw m_350 m_348 m_349 m_6 rfl rfl (by decide +kernel) ⟨Nat.le_of_ble_eq_true rfl, Nat.le_of_ble_eq_true rfl⟩) hK hP hD hS hA [1] [0] rfl rfl (by decide) (by decide) (by decide) rfl hl.1 rfl (Nat.le_of_ble_eq_true rfl) d_S_forget_10 ⟨(Nat.le_of_ble_eq_true rfl), (Nat.le_of_ble_eq_true rfl)⟩ (fun u10 H locs h10 hP hD hS => ?_)
  try dsimp only at h10
  have hP : va_P (dC, dI) classes [(f, .inr (2, [.int (nI 0), .ref a1, .ref a2, .ref a3, .ref a4, .ref a5, .ref a6])), (a6, .inl (cI, M, .inl (nf (cpz (fun _ => 0) sn M))))] H := hP
  have hD : va_D A [(f, .inr (2, [.int (nI 0), .ref a1, .ref a2, .ref a3, .ref a4, .ref a5, .ref a6])), (a6, .inl (cI, M, .inl (nf (cpz (fun _ => 0) sn M))))] := hD
  exact hret () _ _ 13 ls trivial hP hD hS d_S_forget_13
