set_option maxHeartbeats 4000000 in
set_option maxRecDepth 100000 in
/-- lowerBorder -/
theorem c_lowerBorder (l : Launch) (dC : Nat → ClassId) (dI : Nat → Nat → Nat) (cI cL cB : ClassId) (x0 : Nat) (tr : Nat) (f : Nat) (y1 : Nat) (y2 : Nat) (y3 : Nat) (y4 : Nat) (y5 : Nat) (ck : Nat) (nT : Nat) (R : Nat) (t : Nat) (cn : Int64) (k : Int64) (bo : Nat → Nat) (hR : t < R) (hR2 : R < 2 ^ 20) (hbo : bo t < 2 ^ 20) : StdV l y_F_lowerBorder (wd y_F_lowerBorder b_F_lowerBorder 4 none) 0 0 0 0 (dC, dI) classes (tyK cI cL cB) [.ref x0, .int (nI t), .long k] [(x0, .inr (0, [.ref tr, .ref f, .int (nI ck), .long cn])), (tr, .inr (1, [.int (nI nT), .ref y1, .ref y2, .ref y3, .ref y4, .ref y5])), (y5, .inl (cI, R, .inl (nf bo)))] (fun (u : (Nat → Nat)) => (∀ jq, 1 ≤ jq → jq ≤ bo t → k = lN jq → u = va_up bo t (jq - 1)) ∧ ((∀ jq, 1 ≤ jq → jq ≤ bo t → k ≠ lN jq) → u = bo)) (fun (u : (Nat → Nat)) => [(x0, .inr (0, [.ref tr, .ref f, .int (nI ck), .long cn])), (tr, .inr (1, [.int (nI nT), .ref y1, .ref y2, .ref y3, .ref y4, .ref y5])), (y5, .inl (cI, R, .inl (nf u)))]) := by
  refine StdV.mk (cc := b_F_lowerBorder) (maxL := 4) (by decide) rfl (Nat.le_of_ble_eq_true rfl) ?_
  intro p e s m below meth c A Z ls hx hb hml hown hts hin hP hK hD hA hS hret hl
  have hown : s.vm.findClass R_F = some m.cls := hown
  have hw : ∀ x ∈ WALL, x.before _ s = true := fun x h => hts x (List.mem_cons_of_mem _ h)
  have hl : lv_has ls 4 [(0, .ref x0), (1, .int (nI t)), (2, .long k)] := hl
  refine lv_lload_n hx hb d_F_lowerBorder_0 rfl (lv_at hl 2 rfl) ?_
  refine lv_lconst (v := lN 1) hx hb d_F_lowerBorder_1 rfl ?_
  refine W.lcmp hx hb d_F_lowerBorder_2 ?_
  refine lv_if_lt (tgt := 34) hx hb d_F_lowerBorder_3 (by decide) (fun c3 => ?_) (fun c3 => ?_)
  · have c3 : k < lN 1 := (lg_cmp_lt _ _).mp c3
    have hpost : (∀ jq, 1 ≤ jq → jq ≤ bo t → k = lN jq → bo = va_up bo t (jq - 1)) ∧ ((∀ jq, 1 ≤ jq → jq ≤ bo t → k ≠ lN jq) → bo = bo) := ⟨fun j h1 h2 e => absurd c3 (by rw [e, pk_lLT (by omega) (by omega)]; omega), fun _ => rfl⟩
    exact hret (bo) _ _ 34 ls hpost hP hD hS d_F_lowerBorder_34
  · have c3 : ¬ k < lN 1 := fun h => c3 ((lg_cmp_lt _ _).mpr h)
    refine lv_lload_n hx hb d_F_lowerBorder_6 rfl (lv_at hl 2 rfl) ?_
    refine lv_aload_n hx hb d_F_lowerBorder_7 rfl (lv_at hl 0 rfl) ?_
    refine va_get (D := (dC, dI)) (ci := 0) (v := .ref tr) (C := R_F) (T := T_F) (N := 4) hx hb hw in_F hown hK hP 0 rfl rfl 0 (by decide) (hw _ m_83) (fun _ h9 => h9) rfl d_F_lowerBorder_8 ?_
    refine va_get (D := (dC, dI)) (ci := 1) (v := .ref y5) (C := R_T) (T := T_T) (N := 6) hx hb hw in_T hown hK hP 1 rfl rfl 5 (by decide) (hw _ m_33) (fun _ h9 => h9) rfl d_F_lowerBorder_11 ?_
    refine lv_iload_n hx hb d_F_lowerBorder_14 rfl (lv_at hl 1 rfl) ?_
    refine fz_iald hx hb hK hP 2 0 rfl rfl (j := t) (by omega) (by omega) d_F_lowerBorder_15 ?_
    refine lv_i2l (v := lN (bo t)) hx hb d_F_lowerBorder_16 (nI_l (by omega)) ?_
    refine W.lcmp hx hb d_F_lowerBorder_17 ?_
    refine lv_if_gt (tgt := 34) hx hb d_F_lowerBorder_18 (by decide) (fun c18 => ?_) (fun c18 => ?_)
    · have c18 : lN (bo t) < k := (lg_cmp_gt _ _).mp c18
      have hpost : (∀ jq, 1 ≤ jq → jq ≤ bo t → k = lN jq → bo = va_up bo t (jq - 1)) ∧ ((∀ jq, 1 ≤ jq → jq ≤ bo t → k ≠ lN jq) → bo = bo) := ⟨fun j h1 h2 e => absurd c18 (by rw [e, pk_lLT (by omega) (by omega)]; omega), fun _ => rfl⟩
      exact hret (bo) _ _ 34 ls hpost hP hD hS d_F_lowerBorder_34
    · have c18 : ¬ lN (bo t) < k := fun h => c18 ((lg_cmp_gt _ _).mpr h)
      obtain ⟨j, hj1, hj2, ekj⟩ := lN_of (by omega) c3 c18
      rw [ekj] at hl
      refine lv_aload_n hx hb d_F_lowerBorder_21 rfl (lv_at hl 0 rfl) ?_
      refine va_get (D := (dC, dI)) (ci := 0) (v := .ref tr) (C := R_F) (T := T_F) (N := 4) hx hb hw in_F hown hK hP 0 rfl rfl 0 (by decide) (hw _ m_83) (fun _ h9 => h9) rfl d_F_lowerBorder_22 ?_
      refine va_get (D := (dC, dI)) (ci := 1) (v := .ref y5) (C := R_T) (T := T_T) (N := 6) hx hb hw in_T hown hK hP 1 rfl rfl 5 (by decide) (hw _ m_33) (fun _ h9 => h9) rfl d_F_lowerBorder_25 ?_
      refine lv_iload_n hx hb d_F_lowerBorder_28 rfl (lv_at hl 1 rfl) ?_
      refine lv_lload_n hx hb d_F_lowerBorder_29 rfl (lv_at hl 2 rfl) ?_
      refine lv_lconst (v := lN 1) hx hb d_F_lowerBorder_30 rfl ?_
      refine lv_lsub hx hb d_F_lowerBorder_31 ?_
      refine fz_eql (y := lN (j - 1)) (lN_sub (by omega)) ?_
      refine lv_l2i (v := nI (j - 1)) hx hb d_F_lowerBorder_32 (lN_i (j - 1)) ?_
      refine fz_iast hx hb hK hP hD hS 2 0 rfl rfl (j := t) (by omega) (by omega) d_F_lowerBorder_33 (fun H locs hP hD hS => ?_)
      have hP : va_P (dC, dI) classes [(x0, .inr (0, [.ref tr, .ref f, .int (nI ck), .long cn])), (tr, .inr (1, [.int (nI nT), .ref y1, .ref y2, .ref y3, .ref y4, .ref y5])), (y5, .inl (cI, R, .inl (nf (va_up bo t (j - 1)))))] H := hP
      have hD : va_D A [(x0, .inr (0, [.ref tr, .ref f, .int (nI ck), .long cn])), (tr, .inr (1, [.int (nI nT), .ref y1, .ref y2, .ref y3, .ref y4, .ref y5])), (y5, .inl (cI, R, .inl (nf (va_up bo t (j - 1)))))] := hD
      have hpost : (∀ jq, 1 ≤ jq → jq ≤ bo t → k = lN jq → (va_up bo t (j - 1)) = va_up bo t (jq - 1)) ∧ ((∀ jq, 1 ≤ jq → jq ≤ bo t → k ≠ lN jq) → (va_up bo t (j - 1)) = bo) := ⟨fun i h1 h2 e => by rw [ekj] at e; rw [lN_ne (by omega) (by omega) e], fun h => absurd ekj (h j hj1 hj2)⟩
      exact hret (va_up bo t (j - 1)) _ _ 34 ls hpost hP hD hS d_F_lowerBorder_34
set_option maxHeartbeats 4000000 in
set_option maxRecDepth 100000 in
/-- raiseBorder -/
theorem c_raiseBorder (l : Launch) (dC : Nat → ClassId) (dI : Nat → Nat → Nat) (cI cL cB : ClassId) (x0 : Nat) (tr : Nat) (f : Nat) (y1 : Nat) (y2 : Nat) (y3 : Nat) (y4 : Nat) (y5 : Nat) (a1 : Nat) (a2 : Nat) (a3 : Nat) (a4 : Nat) (a5 : Nat) (a6 : Nat) (ck : Nat) (nT : Nat) (g : Nat) (gt : Nat) (cn : Int64) (a : AS) (fi : Nat → Nat) (la : Nat → Nat) (kc : Nat → Nat) (vc : Nat → Nat) (bo : Nat → Nat) (ow : Nat → Nat) (ky : Nat → Int64) (kd : Nat → Nat) (nu : Nat → Int64) (fo : Nat → Nat) (sn : Nat → Nat) (t : Nat) (k : Int64) (hCS : CS nT a g ow ky kd nu sn) (hgt : gt ≤ 11) (hRT : nT < hz_R gt) (ht2 : t ≤ nT) (hb1 : ∀ j, 1 ≤ j → j ≤ bo t → wK a t j ≠ 0) (hb2 : k = lN (bo t + 1) → wK a t (bo t + 1) ≠ 0) : StdV l y_F_raiseBorder (wd y_F_raiseBorder b_F_raiseBorder 5 none) 3 75 0 0 (dC, dI) classes (tyK cI cL cB) [.ref x0, .int (nI t), .long k] [(x0, .inr (0, [.ref tr, .ref f, .int (nI ck), .long cn])), (tr, .inr (1, [.int (nI nT), .ref y1, .ref y2, .ref y3, .ref y4, .ref y5])), (y1, .inl (cI, hz_R gt, .inl (nf fi))), (y2, .inl (cI, hz_R gt, .inl (nf la))), (y3, .inl (cI, hz_R gt, .inl (nf kc))), (y4, .inl (cI, hz_R gt, .inl (nf vc))), (y5, .inl (cI, hz_R gt, .inl (nf bo))), (f, .inr (2, [.int (nI (aN a)), .ref a1, .ref a2, .ref a3, .ref a4, .ref a5, .ref a6])), (a1, .inl (cI, hz_L g, .inl (nf ow))), (a2, .inl (cL, hz_L g, .inr (.inl ky))), (a3, .inl (cB, hz_L g, .inl (nf kd))), (a4, .inl (cL, hz_L g, .inr (.inl nu))), (a5, .inl (cI, hz_L g, .inl (nf fo))), (a6, .inl (cI, hz_M g, .inl (nf sn)))] (fun (u : (Nat → Nat)) => (k ≠ lN (bo t + 1) → u = bo) ∧ (k = lN (bo t + 1) → ∃ bq, isB a t bq ∧ u = va_up bo t bq)) (fun (u : (Nat → Nat)) => [(x0, .inr (0, [.ref tr, .ref f, .int (nI ck), .long cn])), (tr, .inr (1, [.int (nI nT), .ref y1, .ref y2, .ref y3, .ref y4, .ref y5])), (y1, .inl (cI, hz_R gt, .inl (nf fi))), (y2, .inl (cI, hz_R gt, .inl (nf la))), (y3, .inl (cI, hz_R gt, .inl (nf kc))), (y4, .inl (cI, hz_R gt, .inl (nf vc))), (y5, .inl (cI, hz_R gt, .inl (nf u))), (f, .inr (2, [.int (nI (aN a)), .ref a1, .ref a2, .ref a3, .ref a4, .ref a5, .ref a6])), (a1, .inl (cI, hz_L g, .inl (nf ow))), (a2, .inl (cL, hz_L g, .inr (.inl ky))), (a3, .inl (cB, hz_L g, .inl (nf kd))), (a4, .inl (cL, hz_L g, .inr (.inl nu))), (a5, .inl (cI, hz_L g, .inl (nf fo))), (a6, .inl (cI, hz_M g, .inl (nf sn)))]) := by
  have hAI := hCS.1
  have hnT := hCS.2.1
  have hg := hCS.2.2.1
  have hnL := hCS.2.2.2.1
  have hAg := hCS.2.2.2.2.1
  have hk8 := hCS.2.2.2.2.2.1
  have hT := hCS.2.2.2.2.2.2
  have hO := hCS.O
  have hU := hCS.U
  have hg1 := hz_gen g hg
  have hg2 := hz_Rgen gt hgt
  have hn4 := hAI.1
  refine StdV.mk (cc := b_F_raiseBorder) (maxL := 5) (by decide) rfl (Nat.le_of_ble_eq_true rfl) ?_
  intro p e s m below meth c A Z ls hx hb hml hown hts hin hP hK hD hA hS hret hl
  have hown : s.vm.findClass R_F = some m.cls := hown
  have hw : ∀ x ∈ WALL, x.before _ s = true := fun x h => hts x (List.mem_cons_of_mem _ h)
  have hl : lv_has ls 5 [(0, .ref x0), (1, .int (nI t)), (2, .long k)] := hl
  refine lv_aload_n hx hb d_F_raiseBorder_0 rfl (lv_at hl 0 rfl) ?_
  refine va_get (D := (dC, dI)) (ci := 0) (v := .ref tr) (C := R_F) (T := T_F) (N := 4) hx hb hw in_F hown hK hP 0 rfl rfl 0 (by decide) (hw _ m_83) (fun _ h9 => h9) rfl d_F_raiseBorder_1 ?_
  refine va_get (D := (dC, dI)) (ci := 1) (v := .ref y5) (C := R_T) (T := T_T) (N := 6) hx hb hw in_T hown hK hP 1 rfl rfl 5 (by decide) (hw _ m_33) (fun _ h9 => h9) rfl d_F_raiseBorder_4 ?_
  refine lv_iload_n hx hb d_F_raiseBorder_7 rfl (lv_at hl 1 rfl) ?_
  refine fz_iald hx hb hK hP 6 0 rfl rfl (j := t) (by omega) (by omega) d_F_raiseBorder_8 ?_
  have hb3 := wB_le hAI hb1
  refine lv_istore (lv' := [(4, .int (nI (bo t))), (0, .ref x0), (1, .int (nI t)), (2, .long k)]) hx hb d_F_raiseBorder_9 hl (by decide) rfl (fun ls hl => ?_)
  refine lv_lload_n hx hb d_F_raiseBorder_11 rfl (lv_at hl 3 rfl) ?_
  refine lv_iload hx hb d_F_raiseBorder_12 (lv_at hl 0 rfl) ?_
  refine lv_i2l (v := lN (bo t)) hx hb d_F_raiseBorder_14 (nI_l (by omega)) ?_
  refine lv_lconst (v := lN 1) hx hb d_F_raiseBorder_15 rfl ?_
  refine lv_ladd hx hb d_F_raiseBorder_16 ?_
  refine fz_eql (y := lN ((bo t) + 1)) (lN_add (bo t) 1) ?_
  refine W.lcmp hx hb d_F_raiseBorder_17 ?_
  refine lv_if_eq (tgt := 22) hx hb d_F_raiseBorder_18 (by decide) (fun c18 => ?_) (fun c18 => ?_)
  · have c18 : k = lN ((bo t) + 1) := (lg_cmp_eq _ _).mp c18
    refine lv_iinc (v := nI ((bo t) + 1)) (lv' := [(4, .int (nI ((bo t) + 1))), (0, .ref x0), (1, .int (nI t)), (2, .long k)]) hx hb d_F_raiseBorder_22 hl (k := 0) rfl (fz_inc (bo t)) (by decide) rfl (fun ls hl => ?_)
    have loop_25 : ∀ (fuel : Nat) (b : Nat), (∀ j, 1 ≤ j → j ≤ b → wK a t j ≠ 0) → 40001 - b < fuel → ∀ (H : Heap) (locs : List Loc), va_P (dC, dI) classes [(x0, .inr (0, [.ref tr, .ref f, .int (nI ck), .long cn])), (tr, .inr (1, [.int (nI nT), .ref y1, .ref y2, .ref y3, .ref y4, .ref y5])), (y1, .inl (cI, hz_R gt, .inl (nf fi))), (y2, .inl (cI, hz_R gt, .inl (nf la))), (y3, .inl (cI, hz_R gt, .inl (nf kc))), (y4, .inl (cI, hz_R gt, .inl (nf vc))), (y5, .inl (cI, hz_R gt, .inl (nf bo))), (f, .inr (2, [.int (nI (aN a)), .ref a1, .ref a2, .ref a3, .ref a4, .ref a5, .ref a6])), (a1, .inl (cI, hz_L g, .inl (nf ow))), (a2, .inl (cL, hz_L g, .inr (.inl ky))), (a3, .inl (cB, hz_L g, .inl (nf kd))), (a4, .inl (cL, hz_L g, .inr (.inl nu))), (a5, .inl (cI, hz_L g, .inl (nf fo))), (a6, .inl (cI, hz_M g, .inl (nf sn)))] H → va_D A [(x0, .inr (0, [.ref tr, .ref f, .int (nI ck), .long cn])), (tr, .inr (1, [.int (nI nT), .ref y1, .ref y2, .ref y3, .ref y4, .ref y5])), (y1, .inl (cI, hz_R gt, .inl (nf fi))), (y2, .inl (cI, hz_R gt, .inl (nf la))), (y3, .inl (cI, hz_R gt, .inl (nf kc))), (y4, .inl (cI, hz_R gt, .inl (nf vc))), (y5, .inl (cI, hz_R gt, .inl (nf bo))), (f, .inr (2, [.int (nI (aN a)), .ref a1, .ref a2, .ref a3, .ref a4, .ref a5, .ref a6])), (a1, .inl (cI, hz_L g, .inl (nf ow))), (a2, .inl (cL, hz_L g, .inr (.inl ky))), (a3, .inl (cB, hz_L g, .inl (nf kd))), (a4, .inl (cL, hz_L g, .inr (.inl nu))), (a5, .inl (cI, hz_L g, .inl (nf fo))), (a6, .inl (cI, hz_M g, .inl (nf sn)))] → va_S A s.heap H locs → ∀ (ls : Array Slot), lv_has ls 5 [(0, .ref x0), (1, .int (nI t)), (2, .long k), (4, .int (nI b))] → W p l e { frames := 3, cells := 0, slots := 0, locals := 75 } s m [.ref x0, .int (nI t), .long k].toArray below meth c H locs 0 0 Z (F0 m 25 ls []) := by
      intro fuel
      induction fuel with
      | zero => intro b hB hfuel; exact absurd hfuel (Nat.not_lt_zero _)
      | succ fuel ih =>
        intro b hB hfuel H locs hP hD hS ls hl
        have hb9 := wB_le hAI hB
        refine lv_iload hx hb d_F_raiseBorder_25 (lv_at hl 3 rfl) ?_
        refine lv_ldc (v := 40000) hx hb hown (hw _ m_212) d_F_raiseBorder_27 ?_
        refine fz_eqi (y := nI 40000) (by decide) ?_
        refine lv_icmp_ge (tgt := 63) hx hb d_F_raiseBorder_29 (by decide) (fun c29 => ?_) (fun c29 => ?_)
        · have c29 : 40000 ≤ b := by exact (nI_leI (by omega) (by omega)).mp c29
          refine lv_aload_n hx hb d_F_raiseBorder_63 rfl (lv_at hl 0 rfl) ?_
          refine va_get (D := (dC, dI)) (ci := 0) (v := .ref tr) (C := R_F) (T := T_F) (N := 4) hx hb hw in_F hown hK hP 0 rfl rfl 0 (by decide) (hw _ m_83) (fun _ h9 => h9) rfl d_F_raiseBorder_64 ?_
          refine va_get (D := (dC, dI)) (ci := 1) (v := .ref y5) (C := R_T) (T := T_T) (N := 6) hx hb hw in_T hown hK hP 1 rfl rfl 5 (by decide) (hw _ m_33) (fun _ h9 => h9) rfl d_F_raiseBorder_67 ?_
          refine lv_iload_n hx hb d_F_raiseBorder_70 rfl (lv_at hl 1 rfl) ?_
          refine lv_iload hx hb d_F_raiseBorder_71 (lv_at hl 3 rfl) ?_
          refine fz_iast hx hb hK hP hD hS 6 0 rfl rfl (j := t) (by omega) (by omega) d_F_raiseBorder_73 (fun H locs hP hD hS => ?_)
          have hP : va_P (dC, dI) classes [(x0, .inr (0, [.ref tr, .ref f, .int (nI ck), .long cn])), (tr, .inr (1, [.int (nI nT), .ref y1, .ref y2, .ref y3, .ref y4, .ref y5])), (y1, .inl (cI, hz_R gt, .inl (nf fi))), (y2, .inl (cI, hz_R gt, .inl (nf la))), (y3, .inl (cI, hz_R gt, .inl (nf kc))), (y4, .inl (cI, hz_R gt, .inl (nf vc))), (y5, .inl (cI, hz_R gt, .inl (nf (va_up bo t b)))), (f, .inr (2, [.int (nI (aN a)), .ref a1, .ref a2, .ref a3, .ref a4, .ref a5, .ref a6])), (a1, .inl (cI, hz_L g, .inl (nf ow))), (a2, .inl (cL, hz_L g, .inr (.inl ky))), (a3, .inl (cB, hz_L g, .inl (nf kd))), (a4, .inl (cL, hz_L g, .inr (.inl nu))), (a5, .inl (cI, hz_L g, .inl (nf fo))), (a6, .inl (cI, hz_M g, .inl (nf sn)))] H := hP
          have hD : va_D A [(x0, .inr (0, [.ref tr, .ref f, .int (nI ck), .long cn])), (tr, .inr (1, [.int (nI nT), .ref y1, .ref y2, .ref y3, .ref y4, .ref y5])), (y1, .inl (cI, hz_R gt, .inl (nf fi))), (y2, .inl (cI, hz_R gt, .inl (nf la))), (y3, .inl (cI, hz_R gt, .inl (nf kc))), (y4, .inl (cI, hz_R gt, .inl (nf vc))), (y5, .inl (cI, hz_R gt, .inl (nf (va_up bo t b)))), (f, .inr (2, [.int (nI (aN a)), .ref a1, .ref a2, .ref a3, .ref a4, .ref a5, .ref a6])), (a1, .inl (cI, hz_L g, .inl (nf ow))), (a2, .inl (cL, hz_L g, .inr (.inl ky))), (a3, .inl (cB, hz_L g, .inl (nf kd))), (a4, .inl (cL, hz_L g, .inr (.inl nu))), (a5, .inl (cI, hz_L g, .inl (nf fo))), (a6, .inl (cI, hz_M g, .inl (nf sn)))] := hD
          have hpost : (k ≠ lN (bo t + 1) → (va_up bo t b) = bo) ∧ (k = lN (bo t + 1) → ∃ bq, isB a t bq ∧ (va_up bo t b) = va_up bo t bq) := ⟨fun h => absurd c18 h, fun _ => ⟨b, (by have e4 : b = 40000 := (by omega); rw [e4] at hB ⊢; exact isB.full hAI hB), rfl⟩⟩
          exact hret (va_up bo t b) _ _ 74 ls hpost hP hD hS d_F_raiseBorder_74
        · have c29 : ¬ 40000 ≤ b := fun h => c29 (by exact (nI_leI (by omega) (by omega)).mpr h)
          refine lv_aload_n hx hb d_F_raiseBorder_32 rfl (lv_at hl 0 rfl) ?_
          refine va_get (D := (dC, dI)) (ci := 0) (v := .ref f) (C := R_F) (T := T_F) (N := 4) hx hb hw in_F hown hK hP 0 rfl rfl 1 (by decide) (hw _ m_84) (fun _ h9 => h9) rfl d_F_raiseBorder_33 ?_
          refine va_get (D := (dC, dI)) (ci := 2) (v := .ref a3) (C := R_S) (T := T_S) (N := 7) hx hb hw in_S hown hK hP 7 rfl rfl 3 (by decide) (hw _ m_60) (fun _ h9 => h9) rfl d_F_raiseBorder_36 ?_
          refine lv_aload_n hx hb d_F_raiseBorder_39 rfl (lv_at hl 0 rfl) ?_
          refine va_get (D := (dC, dI)) (ci := 0) (v := .ref f) (C := R_F) (T := T_F) (N := 4) hx hb hw in_F hown hK hP 0 rfl rfl 1 (by decide) (hw _ m_84) (fun _ h9 => h9) rfl d_F_raiseBorder_40 ?_
          refine lv_iload_n hx hb d_F_raiseBorder_43 rfl (lv_at hl 1 rfl) ?_
          refine lv_iconst (v := nI 3) hx hb d_F_raiseBorder_44 (by decide) ?_
          refine lv_iload hx hb d_F_raiseBorder_45 (lv_at hl 3 rfl) ?_
          refine lv_i2l (v := lN b) hx hb d_F_raiseBorder_47 (nI_l (by omega)) ?_
          refine lv_lconst (v := lN 1) hx hb d_F_raiseBorder_48 rfl ?_
          refine lv_ladd hx hb d_F_raiseBorder_49 ?_
          refine fz_eql (y := lN (b + 1)) (lN_add b 1) ?_
          refine QryI.callV (ci := 2) (q0 := 0) (c_find l dC dI cI cL cB f a1 a2 a3 a4 a5 a6 (aN a) (hz_L g) (hz_M g) (7 + 2 * g) (aN a) t 3 (lN (b + 1)) ow sn ky (by omega) (by omega) rfl (by omega) (by omega) (by omega) (by omega) hO hU hT) ⟨hx, hb, hml, hown, hw⟩ (fz_cwV 3 hw m_147 m_144 m_145 m_146 m_3 rfl rfl (by decide +kernel) ⟨Nat.le_of_ble_eq_true rfl, Nat.le_of_ble_eq_true rfl⟩) hK hP [7, 8, 9, 13] rfl rfl rfl rfl rfl hl.1 rfl (Nat.le_of_ble_eq_true rfl) d_F_raiseBorder_50 ⟨(Nat.le_of_ble_eq_true rfl), (Nat.le_of_ble_eq_true rfl)⟩ (fun r50 h50 => ?_)
          rw [hCS.F] at h50
          subst h50
          refine fz_bald hx hb hK hP 10 2 rfl rfl (j := aF a (t * 8 + 3) (lN (b + 1))) (Nat.lt_of_le_of_lt (aF_le _ _ _) hnL) (by omega) d_F_raiseBorder_53 ?_
          have hkf := hk8 (aF a (t * 8 + 3) (lN (b + 1)))
          refine lv_if_eq (tgt := 63) hx hb d_F_raiseBorder_54 (by decide) (fun c54 => ?_) (fun c54 => ?_)
          · have c54 : kd (aF a (t * 8 + 3) (lN (b + 1))) = 0 := (nI_eq (by omega) (by omega)).mp (c54.trans nI_0.symm)
            refine lv_aload_n hx hb d_F_raiseBorder_63 rfl (lv_at hl 0 rfl) ?_
            refine va_get (D := (dC, dI)) (ci := 0) (v := .ref tr) (C := R_F) (T := T_F) (N := 4) hx hb hw in_F hown hK hP 0 rfl rfl 0 (by decide) (hw _ m_83) (fun _ h9 => h9) rfl d_F_raiseBorder_64 ?_
            refine va_get (D := (dC, dI)) (ci := 1) (v := .ref y5) (C := R_T) (T := T_T) (N := 6) hx hb hw in_T hown hK hP 1 rfl rfl 5 (by decide) (hw _ m_33) (fun _ h9 => h9) rfl d_F_raiseBorder_67 ?_
            refine lv_iload_n hx hb d_F_raiseBorder_70 rfl (lv_at hl 1 rfl) ?_
            refine lv_iload hx hb d_F_raiseBorder_71 (lv_at hl 3 rfl) ?_
            refine fz_iast hx hb hK hP hD hS 6 0 rfl rfl (j := t) (by omega) (by omega) d_F_raiseBorder_73 (fun H locs hP hD hS => ?_)
            have hP : va_P (dC, dI) classes [(x0, .inr (0, [.ref tr, .ref f, .int (nI ck), .long cn])), (tr, .inr (1, [.int (nI nT), .ref y1, .ref y2, .ref y3, .ref y4, .ref y5])), (y1, .inl (cI, hz_R gt, .inl (nf fi))), (y2, .inl (cI, hz_R gt, .inl (nf la))), (y3, .inl (cI, hz_R gt, .inl (nf kc))), (y4, .inl (cI, hz_R gt, .inl (nf vc))), (y5, .inl (cI, hz_R gt, .inl (nf (va_up bo t b)))), (f, .inr (2, [.int (nI (aN a)), .ref a1, .ref a2, .ref a3, .ref a4, .ref a5, .ref a6])), (a1, .inl (cI, hz_L g, .inl (nf ow))), (a2, .inl (cL, hz_L g, .inr (.inl ky))), (a3, .inl (cB, hz_L g, .inl (nf kd))), (a4, .inl (cL, hz_L g, .inr (.inl nu))), (a5, .inl (cI, hz_L g, .inl (nf fo))), (a6, .inl (cI, hz_M g, .inl (nf sn)))] H := hP
            have hD : va_D A [(x0, .inr (0, [.ref tr, .ref f, .int (nI ck), .long cn])), (tr, .inr (1, [.int (nI nT), .ref y1, .ref y2, .ref y3, .ref y4, .ref y5])), (y1, .inl (cI, hz_R gt, .inl (nf fi))), (y2, .inl (cI, hz_R gt, .inl (nf la))), (y3, .inl (cI, hz_R gt, .inl (nf kc))), (y4, .inl (cI, hz_R gt, .inl (nf vc))), (y5, .inl (cI, hz_R gt, .inl (nf (va_up bo t b)))), (f, .inr (2, [.int (nI (aN a)), .ref a1, .ref a2, .ref a3, .ref a4, .ref a5, .ref a6])), (a1, .inl (cI, hz_L g, .inl (nf ow))), (a2, .inl (cL, hz_L g, .inr (.inl ky))), (a3, .inl (cB, hz_L g, .inl (nf kd))), (a4, .inl (cL, hz_L g, .inr (.inl nu))), (a5, .inl (cI, hz_L g, .inl (nf fo))), (a6, .inl (cI, hz_M g, .inl (nf sn)))] := hD
            have hpost : (k ≠ lN (bo t + 1) → (va_up bo t b) = bo) ∧ (k = lN (bo t + 1) → ∃ bq, isB a t bq ∧ (va_up bo t b) = va_up bo t bq) := ⟨fun h => absurd c18 h, fun _ => ⟨b, ⟨hB, by have := hCS.D (t * 8 + 3) (lN (b + 1)); rw [c54] at this; exact this.symm⟩, rfl⟩⟩
            exact hret (va_up bo t b) _ _ 74 ls hpost hP hD hS d_F_raiseBorder_74
          · have c54 : ¬ kd (aF a (t * 8 + 3) (lN (b + 1))) = 0 := fun h => c54 (((nI_eq (by omega) (by omega)).mpr h).trans nI_0)
            refine lv_iinc (v := nI (b + 1)) (lv' := [(4, .int (nI (b + 1))), (0, .ref x0), (1, .int (nI t)), (2, .long k)]) hx hb d_F_raiseBorder_57 hl (k := 3) rfl (fz_inc b) (by decide) rfl (fun ls hl => ?_)
            refine lv_goto (tgt := 25) hx hb d_F_raiseBorder_60 (by decide) ?_
            exact ih (b + 1) (fun j h1 h2 => by
              rcases Nat.lt_or_ge j (b + 1) with q | q
              · exact hB j h1 (by omega)
              · rw [show j = b + 1 by omega]; have := hCS.D (t * 8 + 3) (lN (b + 1)); exact fun z => c54 (this.trans z)) (by omega) _ _ hP hD hS ls (lv_sub hl [1, 2, 3, 0] rfl)
    exact loop_25 (40001 - ((bo t) + 1) + 1) ((bo t) + 1) (fun j h1 h2 => by
      rcases Nat.lt_or_ge j (bo t + 1) with q | q
      · exact hb1 j h1 (by omega)
      · rw [show j = bo t + 1 by omega]; exact hb2 c18) (Nat.lt_succ_self _) _ _ hP hD hS ls (lv_sub hl [1, 2, 3, 0] rfl)
  · have c18 : ¬ k = lN ((bo t) + 1) := fun h => c18 ((lg_cmp_eq _ _).mpr h)
    have hpost : (k ≠ lN (bo t + 1) → bo = bo) ∧ (k = lN (bo t + 1) → ∃ bq, isB a t bq ∧ bo = va_up bo t bq) := ⟨fun _ => rfl, fun h => absurd h c18⟩
    exact hret (bo) _ _ 21 ls hpost hP hD hS d_F_raiseBorder_21
set_option maxHeartbeats 4000000 in
set_option maxRecDepth 100000 in
/-- change -/
theorem c_change (l : Launch) (dC : Nat → ClassId) (dI : Nat → Nat → Nat) (cI cL cB : ClassId) (x0 : Nat) (tr : Nat) (f : Nat) (y1 : Nat) (y2 : Nat) (y3 : Nat) (y4 : Nat) (y5 : Nat) (a1 : Nat) (a2 : Nat) (a3 : Nat) (a4 : Nat) (a5 : Nat) (a6 : Nat) (ck : Nat) (nT : Nat) (g : Nat) (gt : Nat) (cn : Int64) (a : AS) (fi : Nat → Nat) (la : Nat → Nat) (kc : Nat → Nat) (vc : Nat → Nat) (bo : Nat → Nat) (ow : Nat → Nat) (ky : Nat → Int64) (kd : Nat → Nat) (nu : Nat → Int64) (fo : Nat → Nat) (sn : Nat → Nat) (t : Nat) (i : Nat) (kind : Nat) (num : Int64) (hCI : CI nT a g gt ow ky kd nu fo sn fi la kc vc bo) (hi1 : 1 ≤ i) (hi2 : i ≤ aN a) (hti : aO a i / 8 = t) (hk7 : kind ≤ 7) : StdV l y_F_change (wd y_F_change b_F_change 8 none) 4 99 0 0 (dC, dI) classes (tyK cI cL cB) [.ref x0, .int (nI t), .int (nI i), .int (nI kind), .long num] [(x0, .inr (0, [.ref tr, .ref f, .int (nI ck), .long cn])), (tr, .inr (1, [.int (nI nT), .ref y1, .ref y2, .ref y3, .ref y4, .ref y5])), (y1, .inl (cI, hz_R gt, .inl (nf fi))), (y2, .inl (cI, hz_R gt, .inl (nf la))), (y3, .inl (cI, hz_R gt, .inl (nf kc))), (y4, .inl (cI, hz_R gt, .inl (nf vc))), (y5, .inl (cI, hz_R gt, .inl (nf bo))), (f, .inr (2, [.int (nI (aN a)), .ref a1, .ref a2, .ref a3, .ref a4, .ref a5, .ref a6])), (a1, .inl (cI, hz_L g, .inl (nf ow))), (a2, .inl (cL, hz_L g, .inr (.inl ky))), (a3, .inl (cB, hz_L g, .inl (nf kd))), (a4, .inl (cL, hz_L g, .inr (.inl nu))), (a5, .inl (cI, hz_L g, .inl (nf fo))), (a6, .inl (cI, hz_M g, .inl (nf sn)))] (fun (u : (Nat → Nat) × (Nat → Nat) × (Nat → Nat) × (Nat → Int64)) => CI nT (setA a i kind (if kind = 0 then 0 else num)) g gt ow ky u.2.2.1 u.2.2.2 fo sn fi la kc u.1 u.2.1) (fun (u : (Nat → Nat) × (Nat → Nat) × (Nat → Nat) × (Nat → Int64)) => [(x0, .inr (0, [.ref tr, .ref f, .int (nI ck), .long cn])), (tr, .inr (1, [.int (nI nT), .ref y1, .ref y2, .ref y3, .ref y4, .ref y5])), (y1, .inl (cI, hz_R gt, .inl (nf fi))), (y2, .inl (cI, hz_R gt, .inl (nf la))), (y3, .inl (cI, hz_R gt, .inl (nf kc))), (y4, .inl (cI, hz_R gt, .inl (nf u.1))), (y5, .inl (cI, hz_R gt, .inl (nf u.2.1))), (f, .inr (2, [.int (nI (aN a)), .ref a1, .ref a2, .ref a3, .ref a4, .ref a5, .ref a6])), (a1, .inl (cI, hz_L g, .inl (nf ow))), (a2, .inl (cL, hz_L g, .inr (.inl ky))), (a3, .inl (cB, hz_L g, .inl (nf u.2.2.1))), (a4, .inl (cL, hz_L g, .inr (.inl u.2.2.2))), (a5, .inl (cI, hz_L g, .inl (nf fo))), (a6, .inl (cI, hz_M g, .inl (nf sn)))]) := by
  obtain ⟨hCS, hCT, hgt, hRT⟩ := id hCI
  have hAI := hCS.1
  have hnT := hCS.2.1
  have hg := hCS.2.2.1
  have hnL := hCS.2.2.2.1
  have hAg := hCS.2.2.2.2.1
  have hk8 := hCS.2.2.2.2.2.1
  have hT := hCS.2.2.2.2.2.2
  have hO := hCS.O
  have hU := hCS.U
  have hg1 := hz_gen g hg
  have hg2 := hz_Rgen gt hgt
  have hn4 := hAI.1
  have hDe := (hAg i hi2).2.2.1
  have ht0 := hAI.2.1 i hi1 hi2
  have ht1 : 1 ≤ t := by omega
  have ht2 : t ≤ nT := by omega
  have hCS2 : CS nT (setA a i kind (if kind = 0 then 0 else num)) g ow ky (va_up kd i kind) (vp_updL nu i (if kind = 0 then 0 else num)) sn := hCS.set hi1 hk7 (fun e => by rw [if_pos e])
  have hki := hk8 i
  have hvcn : vc t ≤ aN a := by rw [(hCT.2 t ht1 ht2).2.2.2.1]; exact cnt_le _ _
  have hbon := (hCT.b ht1 ht2).le hAI
  refine StdV.mk (cc := b_F_change) (maxL := 8) (by decide) rfl (Nat.le_of_ble_eq_true rfl) ?_
  intro p e s m below meth c A Z ls hx hb hml hown hts hin hP hK hD hA hS hret hl
  have hown : s.vm.findClass R_F = some m.cls := hown
  have hw : ∀ x ∈ WALL, x.before _ s = true := fun x h => hts x (List.mem_cons_of_mem _ h)
  have hl : lv_has ls 8 [(0, .ref x0), (1, .int (nI t)), (2, .int (nI i)), (3, .int (nI kind)), (4, .long num)] := hl
  refine lv_aload_n hx hb d_F_change_0 rfl (lv_at hl 0 rfl) ?_
  refine va_get (D := (dC, dI)) (ci := 0) (v := .ref f) (C := R_F) (T := T_F) (N := 4) hx hb hw in_F hown hK hP 0 rfl rfl 1 (by decide) (hw _ m_84) (fun _ h9 => h9) rfl d_F_change_1 ?_
  refine va_get (D := (dC, dI)) (ci := 2) (v := .ref a3) (C := R_S) (T := T_S) (N := 7) hx hb hw in_S hown hK hP 7 rfl rfl 3 (by decide) (hw _ m_60) (fun _ h9 => h9) rfl d_F_change_4 ?_
  refine lv_iload_n hx hb d_F_change_7 rfl (lv_at hl 2 rfl) ?_
  refine fz_bald hx hb hK hP 10 2 rfl rfl (j := i) (by omega) (by omega) d_F_change_8 ?_
  refine lv_if_eq (tgt := 16) hx hb d_F_change_9 (by decide) (fun c9 => ?_) (fun c9 => ?_)
  · have c9 : kd i = 0 := (nI_eq (by omega) (by omega)).mp (c9.trans nI_0.symm)
    have hDi : aD a i = 0 := by rw [← hDe]; exact c9
    refine lv_iconst (v := nI 0) hx hb d_F_change_16 (by decide) ?_
    refine lv_istore (lv' := [(6, .int (nI 0)), (0, .ref x0), (1, .int (nI t)), (2, .int (nI i)), (3, .int (nI kind)), (4, .long num)]) hx hb d_F_change_17 hl (by decide) rfl (fun ls hl => ?_)
    refine lv_iload_n hx hb d_F_change_19 rfl (lv_at hl 4 rfl) ?_
    refine lv_if_eq (tgt := 27) hx hb d_F_change_20 (by decide) (fun c20 => ?_) (fun c20 => ?_)
    · have c20 : kind = 0 := (nI_eq (by omega) (by omega)).mp (c20.trans nI_0.symm)
      refine lv_iconst (v := nI 0) hx hb d_F_change_27 (by decide) ?_
      refine lv_istore (lv' := [(7, .int (nI 0)), (6, .int (nI 0)), (0, .ref x0), (1, .int (nI t)), (2, .int (nI i)), (3, .int (nI kind)), (4, .long num)]) hx hb d_F_change_28 hl (by decide) rfl (fun ls hl => ?_)
      refine lv_aload_n hx hb d_F_change_30 rfl (lv_at hl 2 rfl) ?_
      refine va_get (D := (dC, dI)) (ci := 0) (v := .ref f) (C := R_F) (T := T_F) (N := 4) hx hb hw in_F hown hK hP 0 rfl rfl 1 (by decide) (hw _ m_84) (fun _ h9 => h9) rfl d_F_change_31 ?_
      refine lv_iload_n hx hb d_F_change_34 rfl (lv_at hl 4 rfl) ?_
      refine lv_iload_n hx hb d_F_change_35 rfl (lv_at hl 5 rfl) ?_
      refine lv_lload hx hb d_F_change_36 (lv_at hl 6 rfl) ?_
      refine StdV.callV (ci := 2) (q0 := 0) (wr := [(x0, .inr (0, [.ref tr, .ref f, .int (nI ck), .long cn])), (tr, .inr (1, [.int (nI nT), .ref y1, .ref y2, .ref y3, .ref y4, .ref y5])), (y1, .inl (cI, hz_R gt, .inl (nf fi))), (y2, .inl (cI, hz_R gt, .inl (nf la))), (y3, .inl (cI, hz_R gt, .inl (nf kc))), (y4, .inl (cI, hz_R gt, .inl (nf vc))), (y5, .inl (cI, hz_R gt, .inl (nf bo))), (a1, .inl (cI, hz_L g, .inl (nf ow))), (a2, .inl (cL, hz_L g, .inr (.inl ky))), (a5, .inl (cI, hz_L g, .inl (nf fo))), (a6, .inl (cI, hz_M g, .inl (nf sn)))]) (c_setValue l dC dI cI cL cB f a1 a2 a3 a4 a5 a6 (aN a) (hz_L g) i kind num kd nu (by omega) (by omega) (by omega)) ⟨hx, hb, hml, hown, hw⟩ (fz_cwV 3 hw m_203 m_200 m_201 m_202 m_3 rfl rfl (by decide +kernel) ⟨Nat.le_of_ble_eq_true rfl, Nat.le_of_ble_eq_true rfl⟩) hK hP hD hS hA [7, 10, 11] [0, 1, 2, 3, 4, 5, 6, 8, 9, 12, 13] rfl rfl (by decide) (by decide) (by decide) rfl rfl rfl rfl hl.1 rfl (Nat.le_of_ble_eq_true rfl) d_F_change_38 ⟨(Nat.le_of_ble_eq_true rfl), (Nat.le_of_ble_eq_true rfl)⟩ (fun u38 H locs h38 hP hD hS => ?_)
      try dsimp only at h38
      have hP : va_P (dC, dI) classes [(x0, .inr (0, [.ref tr, .ref f, .int (nI ck), .long cn])), (tr, .inr (1, [.int (nI nT), .ref y1, .ref y2, .ref y3, .ref y4, .ref y5])), (y1, .inl (cI, hz_R gt, .inl (nf fi))), (y2, .inl (cI, hz_R gt, .inl (nf la))), (y3, .inl (cI, hz_R gt, .inl (nf kc))), (y4, .inl (cI, hz_R gt, .inl (nf vc))), (y5, .inl (cI, hz_R gt, .inl (nf bo))), (a1, .inl (cI, hz_L g, .inl (nf ow))), (a2, .inl (cL, hz_L g, .inr (.inl ky))), (a5, .inl (cI, hz_L g, .inl (nf fo))), (a6, .inl (cI, hz_M g, .inl (nf sn))), (f, .inr (2, [.int (nI (aN a)), .ref a1, .ref a2, .ref a3, .ref a4, .ref a5, .ref a6])), (a3, .inl (cB, (hz_L g), .inl (nf (va_up kd i kind)))), (a4, .inl (cL, (hz_L g), .inr (.inl (vp_updL nu i (if kind = 0 then 0 else num)))))] H := hP
      have hD : va_D A [(x0, .inr (0, [.ref tr, .ref f, .int (nI ck), .long cn])), (tr, .inr (1, [.int (nI nT), .ref y1, .ref y2, .ref y3, .ref y4, .ref y5])), (y1, .inl (cI, hz_R gt, .inl (nf fi))), (y2, .inl (cI, hz_R gt, .inl (nf la))), (y3, .inl (cI, hz_R gt, .inl (nf kc))), (y4, .inl (cI, hz_R gt, .inl (nf vc))), (y5, .inl (cI, hz_R gt, .inl (nf bo))), (a1, .inl (cI, hz_L g, .inl (nf ow))), (a2, .inl (cL, hz_L g, .inr (.inl ky))), (a5, .inl (cI, hz_L g, .inl (nf fo))), (a6, .inl (cI, hz_M g, .inl (nf sn))), (f, .inr (2, [.int (nI (aN a)), .ref a1, .ref a2, .ref a3, .ref a4, .ref a5, .ref a6])), (a3, .inl (cB, (hz_L g), .inl (nf (va_up kd i kind)))), (a4, .inl (cL, (hz_L g), .inr (.inl (vp_updL nu i (if kind = 0 then 0 else num)))))] := hD
      refine lv_iload hx hb d_F_change_41 (lv_at hl 1 rfl) ?_
      refine lv_iload hx hb d_F_change_43 (lv_at hl 0 rfl) ?_
      refine lv_icmp_ne (tgt := 49) hx hb d_F_change_45 (by decide) (fun c45 => ?_) (fun c45 => ?_)
      · have c45 : ¬ 0 = 0 := fun h => c45 (by exact (nI_eq (by omega) (by omega)).mpr h)
        exact absurd rfl c45
      · have c45 : 0 = 0 := by exact (nI_eq (by omega) (by omega)).mp c45
        have hpost : CI nT (setA a i kind (if kind = 0 then 0 else num)) g gt ow ky (va_up kd i kind) (vp_updL nu i (if kind = 0 then 0 else num)) fo sn fi la kc vc bo := ⟨hCS2, hCT.set (CT.v0 hCT hi1 hi2 ⟨fun _ => hDi, fun _ => c20⟩) (fun t h1 h2 => (hCT.b h1 h2).same ⟨fun _ => hDi, fun _ => c20⟩), hgt, hRT⟩
        exact hret (vc, bo, va_up kd i kind, vp_updL nu i (if kind = 0 then 0 else num)) _ _ 48 ls hpost (fz_subP hP [0, 1, 2, 3, 4, 5, 6, 11, 7, 8, 12, 13, 9, 10] rfl) (hD.sub [0, 1, 2, 3, 4, 5, 6, 11, 7, 8, 12, 13, 9, 10] (by decide) rfl) hS d_F_change_48
    · have c20 : ¬ kind = 0 := fun h => c20 (((nI_eq (by omega) (by omega)).mpr h).trans nI_0)
      refine lv_iconst (v := nI 1) hx hb d_F_change_23 (by decide) ?_
      refine lv_goto (tgt := 28) hx hb d_F_change_24 (by decide) ?_
      refine lv_istore (lv' := [(7, .int (nI 1)), (6, .int (nI 0)), (0, .ref x0), (1, .int (nI t)), (2, .int (nI i)), (3, .int (nI kind)), (4, .long num)]) hx hb d_F_change_28 hl (by decide) rfl (fun ls hl => ?_)
      refine lv_aload_n hx hb d_F_change_30 rfl (lv_at hl 2 rfl) ?_
      refine va_get (D := (dC, dI)) (ci := 0) (v := .ref f) (C := R_F) (T := T_F) (N := 4) hx hb hw in_F hown hK hP 0 rfl rfl 1 (by decide) (hw _ m_84) (fun _ h9 => h9) rfl d_F_change_31 ?_
      refine lv_iload_n hx hb d_F_change_34 rfl (lv_at hl 4 rfl) ?_
      refine lv_iload_n hx hb d_F_change_35 rfl (lv_at hl 5 rfl) ?_
      refine lv_lload hx hb d_F_change_36 (lv_at hl 6 rfl) ?_
      refine StdV.callV (ci := 2) (q0 := 0) (wr := [(x0, .inr (0, [.ref tr, .ref f, .int (nI ck), .long cn])), (tr, .inr (1, [.int (nI nT), .ref y1, .ref y2, .ref y3, .ref y4, .ref y5])), (y1, .inl (cI, hz_R gt, .inl (nf fi))), (y2, .inl (cI, hz_R gt, .inl (nf la))), (y3, .inl (cI, hz_R gt, .inl (nf kc))), (y4, .inl (cI, hz_R gt, .inl (nf vc))), (y5, .inl (cI, hz_R gt, .inl (nf bo))), (a1, .inl (cI, hz_L g, .inl (nf ow))), (a2, .inl (cL, hz_L g, .inr (.inl ky))), (a5, .inl (cI, hz_L g, .inl (nf fo))), (a6, .inl (cI, hz_M g, .inl (nf sn)))]) (c_setValue l dC dI cI cL cB f a1 a2 a3 a4 a5 a6 (aN a) (hz_L g) i kind num kd nu (by omega) (by omega) (by omega)) ⟨hx, hb, hml, hown, hw⟩ (fz_cwV 3 hw m_203 m_200 m_201 m_202 m_3 rfl rfl (by decide +kernel) ⟨Nat.le_of_ble_eq_true rfl, Nat.le_of_ble_eq_true rfl⟩) hK hP hD hS hA [7, 10, 11] [0, 1, 2, 3, 4, 5, 6, 8, 9, 12, 13] rfl rfl (by decide) (by decide) (by decide) rfl rfl rfl rfl hl.1 rfl (Nat.le_of_ble_eq_true rfl) d_F_change_38 ⟨(Nat.le_of_ble_eq_true rfl), (Nat.le_of_ble_eq_true rfl)⟩ (fun u38 H locs h38 hP hD hS => ?_)
      try dsimp only at h38
      have hP : va_P (dC, dI) classes [(x0, .inr (0, [.ref tr, .ref f, .int (nI ck), .long cn])), (tr, .inr (1, [.int (nI nT), .ref y1, .ref y2, .ref y3, .ref y4, .ref y5])), (y1, .inl (cI, hz_R gt, .inl (nf fi))), (y2, .inl (cI, hz_R gt, .inl (nf la))), (y3, .inl (cI, hz_R gt, .inl (nf kc))), (y4, .inl (cI, hz_R gt, .inl (nf vc))), (y5, .inl (cI, hz_R gt, .inl (nf bo))), (a1, .inl (cI, hz_L g, .inl (nf ow))), (a2, .inl (cL, hz_L g, .inr (.inl ky))), (a5, .inl (cI, hz_L g, .inl (nf fo))), (a6, .inl (cI, hz_M g, .inl (nf sn))), (f, .inr (2, [.int (nI (aN a)), .ref a1, .ref a2, .ref a3, .ref a4, .ref a5, .ref a6])), (a3, .inl (cB, (hz_L g), .inl (nf (va_up kd i kind)))), (a4, .inl (cL, (hz_L g), .inr (.inl (vp_updL nu i (if kind = 0 then 0 else num)))))] H := hP
      have hD : va_D A [(x0, .inr (0, [.ref tr, .ref f, .int (nI ck), .long cn])), (tr, .inr (1, [.int (nI nT), .ref y1, .ref y2, .ref y3, .ref y4, .ref y5])), (y1, .inl (cI, hz_R gt, .inl (nf fi))), (y2, .inl (cI, hz_R gt, .inl (nf la))), (y3, .inl (cI, hz_R gt, .inl (nf kc))), (y4, .inl (cI, hz_R gt, .inl (nf vc))), (y5, .inl (cI, hz_R gt, .inl (nf bo))), (a1, .inl (cI, hz_L g, .inl (nf ow))), (a2, .inl (cL, hz_L g, .inr (.inl ky))), (a5, .inl (cI, hz_L g, .inl (nf fo))), (a6, .inl (cI, hz_M g, .inl (nf sn))), (f, .inr (2, [.int (nI (aN a)), .ref a1, .ref a2, .ref a3, .ref a4, .ref a5, .ref a6])), (a3, .inl (cB, (hz_L g), .inl (nf (va_up kd i kind)))), (a4, .inl (cL, (hz_L g), .inr (.inl (vp_updL nu i (if kind = 0 then 0 else num)))))] := hD
      refine lv_iload hx hb d_F_change_41 (lv_at hl 1 rfl) ?_
      refine lv_iload hx hb d_F_change_43 (lv_at hl 0 rfl) ?_
      refine lv_icmp_ne (tgt := 49) hx hb d_F_change_45 (by decide) (fun c45 => ?_) (fun c45 => ?_)
      · have c45 : ¬ 0 = 1 := fun h => c45 (by exact (nI_eq (by omega) (by omega)).mpr h)
        refine lv_aload_n hx hb d_F_change_49 rfl (lv_at hl 2 rfl) ?_
        refine va_get (D := (dC, dI)) (ci := 0) (v := .ref tr) (C := R_F) (T := T_F) (N := 4) hx hb hw in_F hown hK hP 0 rfl rfl 0 (by decide) (hw _ m_83) (fun _ h9 => h9) rfl d_F_change_50 ?_
        refine va_get (D := (dC, dI)) (ci := 1) (v := .ref y4) (C := R_T) (T := T_T) (N := 6) hx hb hw in_T hown hK hP 1 rfl rfl 4 (by decide) (hw _ m_31) (fun _ h9 => h9) rfl d_F_change_53 ?_
        refine lv_iload_n hx hb d_F_change_56 rfl (lv_at hl 3 rfl) ?_
        refine lv_dup2_11 hx hb d_F_change_57 rfl rfl ?_
        refine fz_iald hx hb hK hP 5 0 rfl rfl (j := t) (by omega) (by omega) d_F_change_58 ?_
        refine lv_iload hx hb d_F_change_59 (lv_at hl 0 rfl) ?_
        refine lv_if_eq (tgt := 68) hx hb d_F_change_61 (by decide) (fun c61 => ?_) (fun c61 => ?_)
        · have c61 : 1 = 0 := (nI_eq (by omega) (by omega)).mp (c61.trans nI_0.symm)
          exact absurd c61 (by omega)
        · have c61 : ¬ 1 = 0 := fun h => c61 (((nI_eq (by omega) (by omega)).mpr h).trans nI_0)
          refine lv_iconst (v := nI 1) hx hb d_F_change_64 (by decide) ?_
          refine lv_goto (tgt := 69) hx hb d_F_change_65 (by decide) ?_
          refine lv_iadd hx hb d_F_change_69 ?_
          refine fz_eqi (y := nI ((vc t) + 1)) (nI_add (vc t) 1) ?_
          refine fz_iast hx hb hK hP hD hS 5 0 rfl rfl (j := t) (by omega) (by omega) d_F_change_70 (fun H locs hP hD hS => ?_)
          have hP : va_P (dC, dI) classes [(x0, .inr (0, [.ref tr, .ref f, .int (nI ck), .long cn])), (tr, .inr (1, [.int (nI nT), .ref y1, .ref y2, .ref y3, .ref y4, .ref y5])), (y1, .inl (cI, hz_R gt, .inl (nf fi))), (y2, .inl (cI, hz_R gt, .inl (nf la))), (y3, .inl (cI, hz_R gt, .inl (nf kc))), (y4, .inl (cI, hz_R gt, .inl (nf (va_up vc t ((vc t) + 1))))), (y5, .inl (cI, hz_R gt, .inl (nf bo))), (a1, .inl (cI, hz_L g, .inl (nf ow))), (a2, .inl (cL, hz_L g, .inr (.inl ky))), (a5, .inl (cI, hz_L g, .inl (nf fo))), (a6, .inl (cI, hz_M g, .inl (nf sn))), (f, .inr (2, [.int (nI (aN a)), .ref a1, .ref a2, .ref a3, .ref a4, .ref a5, .ref a6])), (a3, .inl (cB, (hz_L g), .inl (nf (va_up kd i kind)))), (a4, .inl (cL, (hz_L g), .inr (.inl (vp_updL nu i (if kind = 0 then 0 else num)))))] H := hP
          have hD : va_D A [(x0, .inr (0, [.ref tr, .ref f, .int (nI ck), .long cn])), (tr, .inr (1, [.int (nI nT), .ref y1, .ref y2, .ref y3, .ref y4, .ref y5])), (y1, .inl (cI, hz_R gt, .inl (nf fi))), (y2, .inl (cI, hz_R gt, .inl (nf la))), (y3, .inl (cI, hz_R gt, .inl (nf kc))), (y4, .inl (cI, hz_R gt, .inl (nf (va_up vc t ((vc t) + 1))))), (y5, .inl (cI, hz_R gt, .inl (nf bo))), (a1, .inl (cI, hz_L g, .inl (nf ow))), (a2, .inl (cL, hz_L g, .inr (.inl ky))), (a5, .inl (cI, hz_L g, .inl (nf fo))), (a6, .inl (cI, hz_M g, .inl (nf sn))), (f, .inr (2, [.int (nI (aN a)), .ref a1, .ref a2, .ref a3, .ref a4, .ref a5, .ref a6])), (a3, .inl (cB, (hz_L g), .inl (nf (va_up kd i kind)))), (a4, .inl (cL, (hz_L g), .inr (.inl (vp_updL nu i (if kind = 0 then 0 else num)))))] := hD
          refine lv_aload_n hx hb d_F_change_71 rfl (lv_at hl 2 rfl) ?_
          refine va_get (D := (dC, dI)) (ci := 0) (v := .ref f) (C := R_F) (T := T_F) (N := 4) hx hb hw in_F hown hK hP 0 rfl rfl 1 (by decide) (hw _ m_84) (fun _ h9 => h9) rfl d_F_change_72 ?_
          refine lv_iload_n hx hb d_F_change_75 rfl (lv_at hl 4 rfl) ?_
          refine QryI.callV (ci := 2) (q0 := 0) (c_keyKind l dC dI cI cL cB f a1 a2 a3 a4 a5 a6 (aN a) (hz_L g) i ow (by omega) (by omega) (hO i hi2)) ⟨hx, hb, hml, hown, hw⟩ (fz_cwV 1 hw m_207 m_204 m_205 m_206 m_3 rfl rfl (by decide +kernel) ⟨Nat.le_of_ble_eq_true rfl, Nat.le_of_ble_eq_true rfl⟩) hK hP [11, 7] rfl rfl rfl rfl rfl hl.1 rfl (Nat.le_of_ble_eq_true rfl) d_F_change_76 ⟨(Nat.le_of_ble_eq_true rfl), (Nat.le_of_ble_eq_true rfl)⟩ (fun r76 h76 => ?_)
          rw [(hAg i hi2).1] at h76
          subst h76
          refine lv_iconst (v := nI 3) hx hb d_F_change_79 (by decide) ?_
          refine lv_icmp_eq (tgt := 84) hx hb d_F_change_80 (by decide) (fun c80 => ?_) (fun c80 => ?_)
          · have c80 : aO a i % 8 = 3 := by exact (nI_eq (by omega) (by omega)).mp c80
            have ho3 : aO a i = t * 8 + 3 := by omega
            refine lv_iload hx hb d_F_change_84 (lv_at hl 0 rfl) ?_
            refine lv_if_eq (tgt := 106) hx hb d_F_change_86 (by decide) (fun c86 => ?_) (fun c86 => ?_)
            · have c86 : 1 = 0 := (nI_eq (by omega) (by omega)).mp (c86.trans nI_0.symm)
              exact absurd c86 (by omega)
            · have c86 : ¬ 1 = 0 := fun h => c86 (((nI_eq (by omega) (by omega)).mpr h).trans nI_0)
              refine lv_aload_n hx hb d_F_change_89 rfl (lv_at hl 2 rfl) ?_
              refine lv_iload_n hx hb d_F_change_90 rfl (lv_at hl 3 rfl) ?_
              refine lv_aload_n hx hb d_F_change_91 rfl (lv_at hl 2 rfl) ?_
              refine va_get (D := (dC, dI)) (ci := 0) (v := .ref f) (C := R_F) (T := T_F) (N := 4) hx hb hw in_F hown hK hP 0 rfl rfl 1 (by decide) (hw _ m_84) (fun _ h9 => h9) rfl d_F_change_92 ?_
              refine va_get (D := (dC, dI)) (ci := 2) (v := .ref a2) (C := R_S) (T := T_S) (N := 7) hx hb hw in_S hown hK hP 11 rfl rfl 2 (by decide) (hw _ m_58) (fun _ h9 => h9) rfl d_F_change_95 ?_
              refine lv_iload_n hx hb d_F_change_98 rfl (lv_at hl 4 rfl) ?_
              refine fz_lald hx hb hK hP 8 1 rfl rfl (j := i) (by omega) (by omega) d_F_change_99 ?_
              refine fz_eql (y := aK a i) ((hAg i hi2).2.1) ?_
              refine StdV.callV (ci := 0) (q0 := 0) (wr := []) (c_raiseBorder l dC dI cI cL cB x0 tr f y1 y2 y3 y4 y5 a1 a2 a3 a4 a5 a6 ck nT g gt cn (setA a i kind (if kind = 0 then 0 else num)) fi la kc (va_up vc t ((vc t) + 1)) bo ow ky (va_up kd i kind) (vp_updL nu i (if kind = 0 then 0 else num)) fo sn t (aK a i) hCS2 hgt hRT (by omega) ((hCT.b ht1 ht2).up1 c20) (isB.up2 hAI hi1 hi2 ho3 c20)) ⟨hx, hb, hml, hown, hw⟩ (fz_cwV 2 hw m_211 m_208 m_210 ms_6 m_1 rfl rfl (by decide +kernel) ⟨Nat.le_of_ble_eq_true rfl, Nat.le_of_ble_eq_true rfl⟩) hK hP hD hS hA [0, 1, 2, 3, 4, 5, 6, 11, 7, 8, 12, 13, 9, 10] [] rfl rfl (by decide) (by decide) (by decide) rfl rfl rfl rfl hl.1 rfl (Nat.le_of_ble_eq_true rfl) d_F_change_100 ⟨(Nat.le_of_ble_eq_true rfl), (Nat.le_of_ble_eq_true rfl)⟩ (fun u100 H locs h100 hP hD hS => ?_)
              obtain ⟨bo2100, rfl⟩ : ∃ z, z = u100 := ⟨_, rfl⟩
              try dsimp only at h100
              have hP : va_P (dC, dI) classes [(x0, .inr (0, [.ref tr, .ref f, .int (nI ck), .long cn])), (tr, .inr (1, [.int (nI nT), .ref y1, .ref y2, .ref y3, .ref y4, .ref y5])), (y1, .inl (cI, hz_R gt, .inl (nf fi))), (y2, .inl (cI, hz_R gt, .inl (nf la))), (y3, .inl (cI, hz_R gt, .inl (nf kc))), (y4, .inl (cI, hz_R gt, .inl (nf (va_up vc t ((vc t) + 1))))), (y5, .inl (cI, hz_R gt, .inl (nf bo2100))), (f, .inr (2, [.int (nI (aN (setA a i kind (if kind = 0 then 0 else num)))), .ref a1, .ref a2, .ref a3, .ref a4, .ref a5, .ref a6])), (a1, .inl (cI, hz_L g, .inl (nf ow))), (a2, .inl (cL, hz_L g, .inr (.inl ky))), (a3, .inl (cB, hz_L g, .inl (nf (va_up kd i kind)))), (a4, .inl (cL, hz_L g, .inr (.inl (vp_updL nu i (if kind = 0 then 0 else num))))), (a5, .inl (cI, hz_L g, .inl (nf fo))), (a6, .inl (cI, hz_M g, .inl (nf sn)))] H := hP
              have hD : va_D A [(x0, .inr (0, [.ref tr, .ref f, .int (nI ck), .long cn])), (tr, .inr (1, [.int (nI nT), .ref y1, .ref y2, .ref y3, .ref y4, .ref y5])), (y1, .inl (cI, hz_R gt, .inl (nf fi))), (y2, .inl (cI, hz_R gt, .inl (nf la))), (y3, .inl (cI, hz_R gt, .inl (nf kc))), (y4, .inl (cI, hz_R gt, .inl (nf (va_up vc t ((vc t) + 1))))), (y5, .inl (cI, hz_R gt, .inl (nf bo2100))), (f, .inr (2, [.int (nI (aN (setA a i kind (if kind = 0 then 0 else num)))), .ref a1, .ref a2, .ref a3, .ref a4, .ref a5, .ref a6])), (a1, .inl (cI, hz_L g, .inl (nf ow))), (a2, .inl (cL, hz_L g, .inr (.inl ky))), (a3, .inl (cB, hz_L g, .inl (nf (va_up kd i kind)))), (a4, .inl (cL, hz_L g, .inr (.inl (vp_updL nu i (if kind = 0 then 0 else num))))), (a5, .inl (cI, hz_L g, .inl (nf fo))), (a6, .inl (cI, hz_M g, .inl (nf sn)))] := hD
              refine lv_goto (tgt := 120) hx hb d_F_change_103 (by decide) ?_
              have hpost : CI nT (setA a i kind (if kind = 0 then 0 else num)) g gt ow ky (va_up kd i kind) (vp_updL nu i (if kind = 0 then 0 else num)) fo sn fi la kc (va_up vc t (vc t + 1)) bo2100 := ⟨hCS2, hCT.set (by rw [← hti]; exact CT.v1 hCT hi1 hi2 hDi c20) (fun t' h1 h2 => by
                      by_cases e : t' = t
                      · rw [e]
                        by_cases q : aK a i = lN (bo t + 1)
                        · obtain ⟨b, hb8, e8⟩ := h100.2 q
                          rw [e8, va_up_self]; exact hb8
                        · rw [h100.1 q]; exact (hCT.b ht1 ht2).up3 hi1 c20 q
                      · have eb : bo2100 t' = bo t' := by
                          by_cases q : aK a i = lN (bo t + 1)
                          · obtain ⟨b, hb8, e8⟩ := h100.2 q
                            rw [e8, va_up_ne _ _ e]
                          · rw [h100.1 q]
                        rw [eb]; exact (hCT.b h1 h2).off hi1 (fun c => e (by omega))), hgt, hRT⟩
              exact hret (va_up vc t (vc t + 1), bo2100, va_up kd i kind, vp_updL nu i (if kind = 0 then 0 else num)) _ _ 120 ls hpost hP hD hS d_F_change_120
          · have c80 : ¬ aO a i % 8 = 3 := fun h => c80 (by exact (nI_eq (by omega) (by omega)).mpr h)
            have hpost : CI nT (setA a i kind (if kind = 0 then 0 else num)) g gt ow ky (va_up kd i kind) (vp_updL nu i (if kind = 0 then 0 else num)) fo sn fi la kc (va_up vc t (vc t + 1)) bo := ⟨hCS2, hCT.set (by rw [← hti]; exact CT.v1 hCT hi1 hi2 hDi c20) (fun t h1 h2 => (hCT.b h1 h2).off hi1 (fun c => c80 (by omega))), hgt, hRT⟩
            exact hret (va_up vc t (vc t + 1), bo, va_up kd i kind, vp_updL nu i (if kind = 0 then 0 else num)) _ _ 83 ls hpost (fz_subP hP [0, 1, 2, 3, 4, 5, 6, 11, 7, 8, 12, 13, 9, 10] rfl) (hD.sub [0, 1, 2, 3, 4, 5, 6, 11, 7, 8, 12, 13, 9, 10] (by decide) rfl) hS d_F_change_83
      · have c45 : 0 = 1 := by exact (nI_eq (by omega) (by omega)).mp c45
        exact absurd c45 (by omega)
  · have c9 : ¬ kd i = 0 := fun h => c9 (((nI_eq (by omega) (by omega)).mpr h).trans nI_0)
    have hDi : aD a i ≠ 0 := by rw [← hDe]; exact c9
    refine lv_iconst (v := nI 1) hx hb d_F_change_12 (by decide) ?_
    refine lv_goto (tgt := 17) hx hb d_F_change_13 (by decide) ?_
    refine lv_istore (lv' := [(6, .int (nI 1)), (0, .ref x0), (1, .int (nI t)), (2, .int (nI i)), (3, .int (nI kind)), (4, .long num)]) hx hb d_F_change_17 hl (by decide) rfl (fun ls hl => ?_)
    refine lv_iload_n hx hb d_F_change_19 rfl (lv_at hl 4 rfl) ?_
    refine lv_if_eq (tgt := 27) hx hb d_F_change_20 (by decide) (fun c20 => ?_) (fun c20 => ?_)
    · have c20 : kind = 0 := (nI_eq (by omega) (by omega)).mp (c20.trans nI_0.symm)
      refine lv_iconst (v := nI 0) hx hb d_F_change_27 (by decide) ?_
      refine lv_istore (lv' := [(7, .int (nI 0)), (6, .int (nI 1)), (0, .ref x0), (1, .int (nI t)), (2, .int (nI i)), (3, .int (nI kind)), (4, .long num)]) hx hb d_F_change_28 hl (by decide) rfl (fun ls hl => ?_)
      refine lv_aload_n hx hb d_F_change_30 rfl (lv_at hl 2 rfl) ?_
      refine va_get (D := (dC, dI)) (ci := 0) (v := .ref f) (C := R_F) (T := T_F) (N := 4) hx hb hw in_F hown hK hP 0 rfl rfl 1 (by decide) (hw _ m_84) (fun _ h9 => h9) rfl d_F_change_31 ?_
      refine lv_iload_n hx hb d_F_change_34 rfl (lv_at hl 4 rfl) ?_
      refine lv_iload_n hx hb d_F_change_35 rfl (lv_at hl 5 rfl) ?_
      refine lv_lload hx hb d_F_change_36 (lv_at hl 6 rfl) ?_
      refine StdV.callV (ci := 2) (q0 := 0) (wr := [(x0, .inr (0, [.ref tr, .ref f, .int (nI ck), .long cn])), (tr, .inr (1, [.int (nI nT), .ref y1, .ref y2, .ref y3, .ref y4, .ref y5])), (y1, .inl (cI, hz_R gt, .inl (nf fi))), (y2, .inl (cI, hz_R gt, .inl (nf la))), (y3, .inl (cI, hz_R gt, .inl (nf kc))), (y4, .inl (cI, hz_R gt, .inl (nf vc))), (y5, .inl (cI, hz_R gt, .inl (nf bo))), (a1, .inl (cI, hz_L g, .inl (nf ow))), (a2, .inl (cL, hz_L g, .inr (.inl ky))), (a5, .inl (cI, hz_L g, .inl (nf fo))), (a6, .inl (cI, hz_M g, .inl (nf sn)))]) (c_setValue l dC dI cI cL cB f a1 a2 a3 a4 a5 a6 (aN a) (hz_L g) i kind num kd nu (by omega) (by omega) (by omega)) ⟨hx, hb, hml, hown, hw⟩ (fz_cwV 3 hw m_203 m_200 m_201 m_202 m_3 rfl rfl (by decide +kernel) ⟨Nat.le_of_ble_eq_true rfl, Nat.le_of_ble_eq_true rfl⟩) hK hP hD hS hA [7, 10, 11] [0, 1, 2, 3, 4, 5, 6, 8, 9, 12, 13] rfl rfl (by decide) (by decide) (by decide) rfl rfl rfl rfl hl.1 rfl (Nat.le_of_ble_eq_true rfl) d_F_change_38 ⟨(Nat.le_of_ble_eq_true rfl), (Nat.le_of_ble_eq_true rfl)⟩ (fun u38 H locs h38 hP hD hS => ?_)
      try dsimp only at h38
      have hP : va_P (dC, dI) classes [(x0, .inr (0, [.ref tr, .ref f, .int (nI ck), .long cn])), (tr, .inr (1, [.int (nI nT), .ref y1, .ref y2, .ref y3, .ref y4, .ref y5])), (y1, .inl (cI, hz_R gt, .inl (nf fi))), (y2, .inl (cI, hz_R gt, .inl (nf la))), (y3, .inl (cI, hz_R gt, .inl (nf kc))), (y4, .inl (cI, hz_R gt, .inl (nf vc))), (y5, .inl (cI, hz_R gt, .inl (nf bo))), (a1, .inl (cI, hz_L g, .inl (nf ow))), (a2, .inl (cL, hz_L g, .inr (.inl ky))), (a5, .inl (cI, hz_L g, .inl (nf fo))), (a6, .inl (cI, hz_M g, .inl (nf sn))), (f, .inr (2, [.int (nI (aN a)), .ref a1, .ref a2, .ref a3, .ref a4, .ref a5, .ref a6])), (a3, .inl (cB, (hz_L g), .inl (nf (va_up kd i kind)))), (a4, .inl (cL, (hz_L g), .inr (.inl (vp_updL nu i (if kind = 0 then 0 else num)))))] H := hP
      have hD : va_D A [(x0, .inr (0, [.ref tr, .ref f, .int (nI ck), .long cn])), (tr, .inr (1, [.int (nI nT), .ref y1, .ref y2, .ref y3, .ref y4, .ref y5])), (y1, .inl (cI, hz_R gt, .inl (nf fi))), (y2, .inl (cI, hz_R gt, .inl (nf la))), (y3, .inl (cI, hz_R gt, .inl (nf kc))), (y4, .inl (cI, hz_R gt, .inl (nf vc))), (y5, .inl (cI, hz_R gt, .inl (nf bo))), (a1, .inl (cI, hz_L g, .inl (nf ow))), (a2, .inl (cL, hz_L g, .inr (.inl ky))), (a5, .inl (cI, hz_L g, .inl (nf fo))), (a6, .inl (cI, hz_M g, .inl (nf sn))), (f, .inr (2, [.int (nI (aN a)), .ref a1, .ref a2, .ref a3, .ref a4, .ref a5, .ref a6])), (a3, .inl (cB, (hz_L g), .inl (nf (va_up kd i kind)))), (a4, .inl (cL, (hz_L g), .inr (.inl (vp_updL nu i (if kind = 0 then 0 else num)))))] := hD
      refine lv_iload hx hb d_F_change_41 (lv_at hl 1 rfl) ?_
      refine lv_iload hx hb d_F_change_43 (lv_at hl 0 rfl) ?_
      refine lv_icmp_ne (tgt := 49) hx hb d_F_change_45 (by decide) (fun c45 => ?_) (fun c45 => ?_)
      · have c45 : ¬ 1 = 0 := fun h => c45 (by exact (nI_eq (by omega) (by omega)).mpr h)
        refine lv_aload_n hx hb d_F_change_49 rfl (lv_at hl 2 rfl) ?_
        refine va_get (D := (dC, dI)) (ci := 0) (v := .ref tr) (C := R_F) (T := T_F) (N := 4) hx hb hw in_F hown hK hP 0 rfl rfl 0 (by decide) (hw _ m_83) (fun _ h9 => h9) rfl d_F_change_50 ?_
        refine va_get (D := (dC, dI)) (ci := 1) (v := .ref y4) (C := R_T) (T := T_T) (N := 6) hx hb hw in_T hown hK hP 1 rfl rfl 4 (by decide) (hw _ m_31) (fun _ h9 => h9) rfl d_F_change_53 ?_
        refine lv_iload_n hx hb d_F_change_56 rfl (lv_at hl 3 rfl) ?_
        refine lv_dup2_11 hx hb d_F_change_57 rfl rfl ?_
        refine fz_iald hx hb hK hP 5 0 rfl rfl (j := t) (by omega) (by omega) d_F_change_58 ?_
        refine lv_iload hx hb d_F_change_59 (lv_at hl 0 rfl) ?_
        refine lv_if_eq (tgt := 68) hx hb d_F_change_61 (by decide) (fun c61 => ?_) (fun c61 => ?_)
        · have c61 : 0 = 0 := (nI_eq (by omega) (by omega)).mp (c61.trans nI_0.symm)
          refine lv_iconst (v := -1) hx hb d_F_change_68 (by decide) ?_
          refine lv_iadd hx hb d_F_change_69 ?_
          refine fz_eqi (y := nI (vc t - 1)) (sb_m1 (by rw [(hCT.2 t ht1 ht2).2.2.2.1]; exact cV_pos hi1 hi2 hti hDi)) ?_
          refine fz_iast hx hb hK hP hD hS 5 0 rfl rfl (j := t) (by omega) (by omega) d_F_change_70 (fun H locs hP hD hS => ?_)
          have hP : va_P (dC, dI) classes [(x0, .inr (0, [.ref tr, .ref f, .int (nI ck), .long cn])), (tr, .inr (1, [.int (nI nT), .ref y1, .ref y2, .ref y3, .ref y4, .ref y5])), (y1, .inl (cI, hz_R gt, .inl (nf fi))), (y2, .inl (cI, hz_R gt, .inl (nf la))), (y3, .inl (cI, hz_R gt, .inl (nf kc))), (y4, .inl (cI, hz_R gt, .inl (nf (va_up vc t (vc t - 1))))), (y5, .inl (cI, hz_R gt, .inl (nf bo))), (a1, .inl (cI, hz_L g, .inl (nf ow))), (a2, .inl (cL, hz_L g, .inr (.inl ky))), (a5, .inl (cI, hz_L g, .inl (nf fo))), (a6, .inl (cI, hz_M g, .inl (nf sn))), (f, .inr (2, [.int (nI (aN a)), .ref a1, .ref a2, .ref a3, .ref a4, .ref a5, .ref a6])), (a3, .inl (cB, (hz_L g), .inl (nf (va_up kd i kind)))), (a4, .inl (cL, (hz_L g), .inr (.inl (vp_updL nu i (if kind = 0 then 0 else num)))))] H := hP
          have hD : va_D A [(x0, .inr (0, [.ref tr, .ref f, .int (nI ck), .long cn])), (tr, .inr (1, [.int (nI nT), .ref y1, .ref y2, .ref y3, .ref y4, .ref y5])), (y1, .inl (cI, hz_R gt, .inl (nf fi))), (y2, .inl (cI, hz_R gt, .inl (nf la))), (y3, .inl (cI, hz_R gt, .inl (nf kc))), (y4, .inl (cI, hz_R gt, .inl (nf (va_up vc t (vc t - 1))))), (y5, .inl (cI, hz_R gt, .inl (nf bo))), (a1, .inl (cI, hz_L g, .inl (nf ow))), (a2, .inl (cL, hz_L g, .inr (.inl ky))), (a5, .inl (cI, hz_L g, .inl (nf fo))), (a6, .inl (cI, hz_M g, .inl (nf sn))), (f, .inr (2, [.int (nI (aN a)), .ref a1, .ref a2, .ref a3, .ref a4, .ref a5, .ref a6])), (a3, .inl (cB, (hz_L g), .inl (nf (va_up kd i kind)))), (a4, .inl (cL, (hz_L g), .inr (.inl (vp_updL nu i (if kind = 0 then 0 else num)))))] := hD
          refine lv_aload_n hx hb d_F_change_71 rfl (lv_at hl 2 rfl) ?_
          refine va_get (D := (dC, dI)) (ci := 0) (v := .ref f) (C := R_F) (T := T_F) (N := 4) hx hb hw in_F hown hK hP 0 rfl rfl 1 (by decide) (hw _ m_84) (fun _ h9 => h9) rfl d_F_change_72 ?_
          refine lv_iload_n hx hb d_F_change_75 rfl (lv_at hl 4 rfl) ?_
          refine QryI.callV (ci := 2) (q0 := 0) (c_keyKind l dC dI cI cL cB f a1 a2 a3 a4 a5 a6 (aN a) (hz_L g) i ow (by omega) (by omega) (hO i hi2)) ⟨hx, hb, hml, hown, hw⟩ (fz_cwV 1 hw m_207 m_204 m_205 m_206 m_3 rfl rfl (by decide +kernel) ⟨Nat.le_of_ble_eq_true rfl, Nat.le_of_ble_eq_true rfl⟩) hK hP [11, 7] rfl rfl rfl rfl rfl hl.1 rfl (Nat.le_of_ble_eq_true rfl) d_F_change_76 ⟨(Nat.le_of_ble_eq_true rfl), (Nat.le_of_ble_eq_true rfl)⟩ (fun r76 h76 => ?_)
          rw [(hAg i hi2).1] at h76
          subst h76
          refine lv_iconst (v := nI 3) hx hb d_F_change_79 (by decide) ?_
          refine lv_icmp_eq (tgt := 84) hx hb d_F_change_80 (by decide) (fun c80 => ?_) (fun c80 => ?_)
          · have c80 : aO a i % 8 = 3 := by exact (nI_eq (by omega) (by omega)).mp c80
            have ho3 : aO a i = t * 8 + 3 := by omega
            refine lv_iload hx hb d_F_change_84 (lv_at hl 0 rfl) ?_
            refine lv_if_eq (tgt := 106) hx hb d_F_change_86 (by decide) (fun c86 => ?_) (fun c86 => ?_)
            · have c86 : 0 = 0 := (nI_eq (by omega) (by omega)).mp (c86.trans nI_0.symm)
              refine lv_aload_n hx hb d_F_change_106 rfl (lv_at hl 2 rfl) ?_
              refine lv_iload_n hx hb d_F_change_107 rfl (lv_at hl 3 rfl) ?_
              refine lv_aload_n hx hb d_F_change_108 rfl (lv_at hl 2 rfl) ?_
              refine va_get (D := (dC, dI)) (ci := 0) (v := .ref f) (C := R_F) (T := T_F) (N := 4) hx hb hw in_F hown hK hP 0 rfl rfl 1 (by decide) (hw _ m_84) (fun _ h9 => h9) rfl d_F_change_109 ?_
              refine va_get (D := (dC, dI)) (ci := 2) (v := .ref a2) (C := R_S) (T := T_S) (N := 7) hx hb hw in_S hown hK hP 11 rfl rfl 2 (by decide) (hw _ m_58) (fun _ h9 => h9) rfl d_F_change_112 ?_
              refine lv_iload_n hx hb d_F_change_115 rfl (lv_at hl 4 rfl) ?_
              refine fz_lald hx hb hK hP 8 1 rfl rfl (j := i) (by omega) (by omega) d_F_change_116 ?_
              refine fz_eql (y := aK a i) ((hAg i hi2).2.1) ?_
              refine StdV.callV (ci := 0) (q0 := 0) (wr := [(y1, .inl (cI, hz_R gt, .inl (nf fi))), (y2, .inl (cI, hz_R gt, .inl (nf la))), (y3, .inl (cI, hz_R gt, .inl (nf kc))), (y4, .inl (cI, hz_R gt, .inl (nf (va_up vc t (vc t - 1))))), (a1, .inl (cI, hz_L g, .inl (nf ow))), (a2, .inl (cL, hz_L g, .inr (.inl ky))), (a5, .inl (cI, hz_L g, .inl (nf fo))), (a6, .inl (cI, hz_M g, .inl (nf sn))), (f, .inr (2, [.int (nI (aN a)), .ref a1, .ref a2, .ref a3, .ref a4, .ref a5, .ref a6])), (a3, .inl (cB, (hz_L g), .inl (nf (va_up kd i kind)))), (a4, .inl (cL, (hz_L g), .inr (.inl (vp_updL nu i (if kind = 0 then 0 else num)))))]) (c_lowerBorder l dC dI cI cL cB x0 tr f y1 y2 y3 y4 y5 ck nT (hz_R gt) t cn (aK a i) bo (by omega) (by omega) (by omega)) ⟨hx, hb, hml, hown, hw⟩ (fz_cwV 2 hw m_216 m_213 m_215 ms_7 m_1 rfl rfl (by decide +kernel) ⟨Nat.le_of_ble_eq_true rfl, Nat.le_of_ble_eq_true rfl⟩) hK hP hD hS hA [0, 1, 6] [2, 3, 4, 5, 7, 8, 9, 10, 11, 12, 13] rfl rfl (by decide) (by decide) (by decide) rfl rfl rfl rfl hl.1 rfl (Nat.le_of_ble_eq_true rfl) d_F_change_117 ⟨(Nat.le_of_ble_eq_true rfl), (Nat.le_of_ble_eq_true rfl)⟩ (fun u117 H locs h117 hP hD hS => ?_)
              obtain ⟨bo2117, rfl⟩ : ∃ z, z = u117 := ⟨_, rfl⟩
              try dsimp only at h117
              have hP : va_P (dC, dI) classes [(y1, .inl (cI, hz_R gt, .inl (nf fi))), (y2, .inl (cI, hz_R gt, .inl (nf la))), (y3, .inl (cI, hz_R gt, .inl (nf kc))), (y4, .inl (cI, hz_R gt, .inl (nf (va_up vc t (vc t - 1))))), (a1, .inl (cI, hz_L g, .inl (nf ow))), (a2, .inl (cL, hz_L g, .inr (.inl ky))), (a5, .inl (cI, hz_L g, .inl (nf fo))), (a6, .inl (cI, hz_M g, .inl (nf sn))), (f, .inr (2, [.int (nI (aN a)), .ref a1, .ref a2, .ref a3, .ref a4, .ref a5, .ref a6])), (a3, .inl (cB, (hz_L g), .inl (nf (va_up kd i kind)))), (a4, .inl (cL, (hz_L g), .inr (.inl (vp_updL nu i (if kind = 0 then 0 else num))))), (x0, .inr (0, [.ref tr, .ref f, .int (nI ck), .long cn])), (tr, .inr (1, [.int (nI nT), .ref y1, .ref y2, .ref y3, .ref y4, .ref y5])), (y5, .inl (cI, (hz_R gt), .inl (nf bo2117)))] H := hP
              have hD : va_D A [(y1, .inl (cI, hz_R gt, .inl (nf fi))), (y2, .inl (cI, hz_R gt, .inl (nf la))), (y3, .inl (cI, hz_R gt, .inl (nf kc))), (y4, .inl (cI, hz_R gt, .inl (nf (va_up vc t (vc t - 1))))), (a1, .inl (cI, hz_L g, .inl (nf ow))), (a2, .inl (cL, hz_L g, .inr (.inl ky))), (a5, .inl (cI, hz_L g, .inl (nf fo))), (a6, .inl (cI, hz_M g, .inl (nf sn))), (f, .inr (2, [.int (nI (aN a)), .ref a1, .ref a2, .ref a3, .ref a4, .ref a5, .ref a6])), (a3, .inl (cB, (hz_L g), .inl (nf (va_up kd i kind)))), (a4, .inl (cL, (hz_L g), .inr (.inl (vp_updL nu i (if kind = 0 then 0 else num))))), (x0, .inr (0, [.ref tr, .ref f, .int (nI ck), .long cn])), (tr, .inr (1, [.int (nI nT), .ref y1, .ref y2, .ref y3, .ref y4, .ref y5])), (y5, .inl (cI, (hz_R gt), .inl (nf bo2117)))] := hD
              have hpost : CI nT (setA a i kind (if kind = 0 then 0 else num)) g gt ow ky (va_up kd i kind) (vp_updL nu i (if kind = 0 then 0 else num)) fo sn fi la kc (va_up vc t (vc t - 1)) bo2117 := ⟨hCS2, hCT.set (by rw [c20, ← hti]; exact CT.v2 hCT hi1 hi2 hDi) (fun t' h1 h2 => by
                      rw [c20]
                      by_cases e : t' = t
                      · rw [e]
                        by_cases q : ∃ j, 1 ≤ j ∧ j ≤ bo t ∧ aK a i = lN j
                        · obtain ⟨j, j1, j2, j3⟩ := q
                          rw [h117.1 j j1 j2 j3, va_up_self]; exact (hCT.b ht1 ht2).dn1 hAI hi1 hi2 ho3 j1 j2 j3
                        · have q2 : ∀ j, 1 ≤ j → j ≤ bo t → aK a i ≠ lN j := fun j j1 j2 j3 => q ⟨j, j1, j2, j3⟩
                          rw [h117.2 q2]; exact (hCT.b ht1 ht2).dn2 hi1 q2
                      · have eb : bo2117 t' = bo t' := by
                          by_cases q : ∃ j, 1 ≤ j ∧ j ≤ bo t ∧ aK a i = lN j
                          · obtain ⟨j, j1, j2, j3⟩ := q
                            rw [h117.1 j j1 j2 j3, va_up_ne _ _ e]
                          · rw [h117.2 (fun j j1 j2 j3 => q ⟨j, j1, j2, j3⟩)]
                        rw [eb]; exact (hCT.b h1 h2).off hi1 (fun c => e (by omega))), hgt, hRT⟩
              exact hret (va_up vc t (vc t - 1), bo2117, va_up kd i kind, vp_updL nu i (if kind = 0 then 0 else num)) _ _ 120 ls hpost (fz_subP hP [11, 12, 0, 1, 2, 3, 13, 8, 4, 5, 9, 10, 6, 7] rfl) (hD.sub [11, 12, 0, 1, 2, 3, 13, 8, 4, 5, 9, 10, 6, 7] (by decide) rfl) hS d_F_change_120
            · have c86 : ¬ 0 = 0 := fun h => c86 (((nI_eq (by omega) (by omega)).mpr h).trans nI_0)
              exact absurd rfl c86
          · have c80 : ¬ aO a i % 8 = 3 := fun h => c80 (by exact (nI_eq (by omega) (by omega)).mpr h)
            have hpost : CI nT (setA a i kind (if kind = 0 then 0 else num)) g gt ow ky (va_up kd i kind) (vp_updL nu i (if kind = 0 then 0 else num)) fo sn fi la kc (va_up vc t (vc t - 1)) bo := ⟨hCS2, hCT.set (by rw [c20, ← hti]; exact CT.v2 hCT hi1 hi2 hDi) (fun t h1 h2 => (hCT.b h1 h2).off hi1 (fun c => c80 (by omega))), hgt, hRT⟩
            exact hret (va_up vc t (vc t - 1), bo, va_up kd i kind, vp_updL nu i (if kind = 0 then 0 else num)) _ _ 83 ls hpost (fz_subP hP [0, 1, 2, 3, 4, 5, 6, 11, 7, 8, 12, 13, 9, 10] rfl) (hD.sub [0, 1, 2, 3, 4, 5, 6, 11, 7, 8, 12, 13, 9, 10] (by decide) rfl) hS d_F_change_83
        · have c61 : ¬ 0 = 0 := fun h => c61 (((nI_eq (by omega) (by omega)).mpr h).trans nI_0)
          exact absurd rfl c61
      · have c45 : 1 = 0 := by exact (nI_eq (by omega) (by omega)).mp c45
        exact absurd c45 (by omega)
    · have c20 : ¬ kind = 0 := fun h => c20 (((nI_eq (by omega) (by omega)).mpr h).trans nI_0)
      refine lv_iconst (v := nI 1) hx hb d_F_change_23 (by decide) ?_
      refine lv_goto (tgt := 28) hx hb d_F_change_24 (by decide) ?_
      refine lv_istore (lv' := [(7, .int (nI 1)), (6, .int (nI 1)), (0, .ref x0), (1, .int (nI t)), (2, .int (nI i)), (3, .int (nI kind)), (4, .long num)]) hx hb d_F_change_28 hl (by decide) rfl (fun ls hl => ?_)
      refine lv_aload_n hx hb d_F_change_30 rfl (lv_at hl 2 rfl) ?_
      refine va_get (D := (dC, dI)) (ci := 0) (v := .ref f) (C := R_F) (T := T_F) (N := 4) hx hb hw in_F hown hK hP 0 rfl rfl 1 (by decide) (hw _ m_84) (fun _ h9 => h9) rfl d_F_change_31 ?_
      refine lv_iload_n hx hb d_F_change_34 rfl (lv_at hl 4 rfl) ?_
      refine lv_iload_n hx hb d_F_change_35 rfl (lv_at hl 5 rfl) ?_
      refine lv_lload hx hb d_F_change_36 (lv_at hl 6 rfl) ?_
      refine StdV.callV (ci := 2) (q0 := 0) (wr := [(x0, .inr (0, [.ref tr, .ref f, .int (nI ck), .long cn])), (tr, .inr (1, [.int (nI nT), .ref y1, .ref y2, .ref y3, .ref y4, .ref y5])), (y1, .inl (cI, hz_R gt, .inl (nf fi))), (y2, .inl (cI, hz_R gt, .inl (nf la))), (y3, .inl (cI, hz_R gt, .inl (nf kc))), (y4, .inl (cI, hz_R gt, .inl (nf vc))), (y5, .inl (cI, hz_R gt, .inl (nf bo))), (a1, .inl (cI, hz_L g, .inl (nf ow))), (a2, .inl (cL, hz_L g, .inr (.inl ky))), (a5, .inl (cI, hz_L g, .inl (nf fo))), (a6, .inl (cI, hz_M g, .inl (nf sn)))]) (c_setValue l dC dI cI cL cB f a1 a2 a3 a4 a5 a6 (aN a) (hz_L g) i kind num kd nu (by omega) (by omega) (by omega)) ⟨hx, hb, hml, hown, hw⟩ (fz_cwV 3 hw m_203 m_200 m_201 m_202 m_3 rfl rfl (by decide +kernel) ⟨Nat.le_of_ble_eq_true rfl, Nat.le_of_ble_eq_true rfl⟩) hK hP hD hS hA [7, 10, 11] [0, 1, 2, 3, 4, 5, 6, 8, 9, 12, 13] rfl rfl (by decide) (by decide) (by decide) rfl rfl rfl rfl hl.1 rfl (Nat.le_of_ble_eq_true rfl) d_F_change_38 ⟨(Nat.le_of_ble_eq_true rfl), (Nat.le_of_ble_eq_true rfl)⟩ (fun u38 H locs h38 hP hD hS => ?_)
      try dsimp only at h38
      have hP : va_P (dC, dI) classes [(x0, .inr (0, [.ref tr, .ref f, .int (nI ck), .long cn])), (tr, .inr (1, [.int (nI nT), .ref y1, .ref y2, .ref y3, .ref y4, .ref y5])), (y1, .inl (cI, hz_R gt, .inl (nf fi))), (y2, .inl (cI, hz_R gt, .inl (nf la))), (y3, .inl (cI, hz_R gt, .inl (nf kc))), (y4, .inl (cI, hz_R gt, .inl (nf vc))), (y5, .inl (cI, hz_R gt, .inl (nf bo))), (a1, .inl (cI, hz_L g, .inl (nf ow))), (a2, .inl (cL, hz_L g, .inr (.inl ky))), (a5, .inl (cI, hz_L g, .inl (nf fo))), (a6, .inl (cI, hz_M g, .inl (nf sn))), (f, .inr (2, [.int (nI (aN a)), .ref a1, .ref a2, .ref a3, .ref a4, .ref a5, .ref a6])), (a3, .inl (cB, (hz_L g), .inl (nf (va_up kd i kind)))), (a4, .inl (cL, (hz_L g), .inr (.inl (vp_updL nu i (if kind = 0 then 0 else num)))))] H := hP
      have hD : va_D A [(x0, .inr (0, [.ref tr, .ref f, .int (nI ck), .long cn])), (tr, .inr (1, [.int (nI nT), .ref y1, .ref y2, .ref y3, .ref y4, .ref y5])), (y1, .inl (cI, hz_R gt, .inl (nf fi))), (y2, .inl (cI, hz_R gt, .inl (nf la))), (y3, .inl (cI, hz_R gt, .inl (nf kc))), (y4, .inl (cI, hz_R gt, .inl (nf vc))), (y5, .inl (cI, hz_R gt, .inl (nf bo))), (a1, .inl (cI, hz_L g, .inl (nf ow))), (a2, .inl (cL, hz_L g, .inr (.inl ky))), (a5, .inl (cI, hz_L g, .inl (nf fo))), (a6, .inl (cI, hz_M g, .inl (nf sn))), (f, .inr (2, [.int (nI (aN a)), .ref a1, .ref a2, .ref a3, .ref a4, .ref a5, .ref a6])), (a3, .inl (cB, (hz_L g), .inl (nf (va_up kd i kind)))), (a4, .inl (cL, (hz_L g), .inr (.inl (vp_updL nu i (if kind = 0 then 0 else num)))))] := hD
      refine lv_iload hx hb d_F_change_41 (lv_at hl 1 rfl) ?_
      refine lv_iload hx hb d_F_change_43 (lv_at hl 0 rfl) ?_
      refine lv_icmp_ne (tgt := 49) hx hb d_F_change_45 (by decide) (fun c45 => ?_) (fun c45 => ?_)
      · have c45 : ¬ 1 = 1 := fun h => c45 (by exact (nI_eq (by omega) (by omega)).mpr h)
        exact absurd rfl c45
      · have c45 : 1 = 1 := by exact (nI_eq (by omega) (by omega)).mp c45
        have hpost : CI nT (setA a i kind (if kind = 0 then 0 else num)) g gt ow ky (va_up kd i kind) (vp_updL nu i (if kind = 0 then 0 else num)) fo sn fi la kc vc bo := ⟨hCS2, hCT.set (CT.v0 hCT hi1 hi2 ⟨fun h => absurd h c20, fun h => absurd h hDi⟩) (fun t h1 h2 => (hCT.b h1 h2).same ⟨fun h => absurd h c20, fun h => absurd h hDi⟩), hgt, hRT⟩
        exact hret (vc, bo, va_up kd i kind, vp_updL nu i (if kind = 0 then 0 else num)) _ _ 48 ls hpost (fz_subP hP [0, 1, 2, 3, 4, 5, 6, 11, 7, 8, 12, 13, 9, 10] rfl) (hD.sub [0, 1, 2, 3, 4, 5, 6, 11, 7, 8, 12, 13, 9, 10] (by decide) rfl) hS d_F_change_48
