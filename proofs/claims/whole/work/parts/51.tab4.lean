set_option maxHeartbeats 4000000 in
set_option maxRecDepth 100000 in
/-- isRun -/
theorem c_isRun (l : Launch) (dC : Nat → ClassId) (dI : Nat → Nat → Nat) (cI cL cB : ClassId) (x0 : Nat) (tr : Nat) (f : Nat) (y1 : Nat) (y2 : Nat) (y3 : Nat) (y4 : Nat) (y5 : Nat) (a1 : Nat) (a2 : Nat) (a3 : Nat) (a4 : Nat) (a5 : Nat) (a6 : Nat) (ck : Nat) (nT : Nat) (g : Nat) (gt : Nat) (cn : Int64) (a : AS) (fi : Nat → Nat) (la : Nat → Nat) (kc : Nat → Nat) (vc : Nat → Nat) (bo : Nat → Nat) (ow : Nat → Nat) (ky : Nat → Int64) (kd : Nat → Nat) (nu : Nat → Int64) (fo : Nat → Nat) (sn : Nat → Nat) (x : Int32) (frm : Int64) (n : Int32) (sp : Int32) (hCI : CI nT a g gt ow ky kd nu fo sn fi la kc vc bo) : QryI l y_F_isRun (wd y_F_isRun b_F_isRun 6 (some .boolean)) 1 21 (dC, dI) classes (tyK cI cL cB) [.ref x0, .int x, .long frm, .int n, .int sp] [(x0, .inr (0, [.ref tr, .ref f, .int (nI ck), .long cn])), (tr, .inr (1, [.int (nI nT), .ref y1, .ref y2, .ref y3, .ref y4, .ref y5])), (y1, .inl (cI, hz_R gt, .inl (nf fi))), (y2, .inl (cI, hz_R gt, .inl (nf la))), (y3, .inl (cI, hz_R gt, .inl (nf kc))), (y4, .inl (cI, hz_R gt, .inl (nf vc))), (y5, .inl (cI, hz_R gt, .inl (nf bo))), (f, .inr (2, [.int (nI (aN a)), .ref a1, .ref a2, .ref a3, .ref a4, .ref a5, .ref a6])), (a1, .inl (cI, hz_L g, .inl (nf ow))), (a2, .inl (cL, hz_L g, .inr (.inl ky))), (a3, .inl (cB, hz_L g, .inl (nf kd))), (a4, .inl (cL, hz_L g, .inr (.inl nu))), (a5, .inl (cI, hz_L g, .inl (nf fo))), (a6, .inl (cI, hz_M g, .inl (nf sn)))] (fun r : Int32 => ∃ b, b ≤ 1 ∧ r = nI b ∧ (b = 1 ↔ okRun nT x frm n sp)) := by
  obtain ⟨hCS, hCT, hgt, hRT⟩ := id hCI
  have hAI := hCS.1
  have hnT := hCS.2.1
  have hg := hCS.2.2.1
  have hnL := hCS.2.2.2.1
  have hAg := hCS.2.2.2.2.1
  have hk8 := hCS.2.2.2.2.2.1
  have hT := hCS.2.2.2.2.2.2
  have hO := hCS.O
  have hU := hCS.U
  have hg1 := hz_gen g hg
  have hg2 := hz_Rgen gt hgt
  have hn4 := hAI.1
  refine QryZ.mk (cc := b_F_isRun) (maxL := 6) (by decide) rfl (Nat.le_of_ble_eq_true rfl) ?_
  intro p e s m below meth c Z ls hx hb hml hown hts hP hK hret hl
  have hP : va_P (dC, dI) classes [(x0, .inr (0, [.ref tr, .ref f, .int (nI ck), .long cn])), (tr, .inr (1, [.int (nI nT), .ref y1, .ref y2, .ref y3, .ref y4, .ref y5])), (y1, .inl (cI, hz_R gt, .inl (nf fi))), (y2, .inl (cI, hz_R gt, .inl (nf la))), (y3, .inl (cI, hz_R gt, .inl (nf kc))), (y4, .inl (cI, hz_R gt, .inl (nf vc))), (y5, .inl (cI, hz_R gt, .inl (nf bo))), (f, .inr (2, [.int (nI (aN a)), .ref a1, .ref a2, .ref a3, .ref a4, .ref a5, .ref a6])), (a1, .inl (cI, hz_L g, .inl (nf ow))), (a2, .inl (cL, hz_L g, .inr (.inl ky))), (a3, .inl (cB, hz_L g, .inl (nf kd))), (a4, .inl (cL, hz_L g, .inr (.inl nu))), (a5, .inl (cI, hz_L g, .inl (nf fo))), (a6, .inl (cI, hz_M g, .inl (nf sn)))] s.heap := hP
  have hown : s.vm.findClass R_F = some m.cls := hown
  have hw : ∀ x ∈ WALL, x.before _ s = true := fun x h => hts x (List.mem_cons_of_mem _ h)
  have hl : lv_has ls 6 [(0, .ref x0), (1, .int x), (2, .long frm), (4, .int n), (5, .int sp)] := hl
  refine lv_aload_n hx hb d_F_isRun_0 rfl (lv_at hl 0 rfl) ?_
  refine va_get (D := (dC, dI)) (ci := 0) (v := .ref tr) (C := R_F) (T := T_F) (N := 4) hx hb hw in_F hown hK hP 0 rfl rfl 0 (by decide) (hw _ m_83) (fun _ h9 => h9) rfl d_F_isRun_1 ?_
  refine lv_iload_n hx hb d_F_isRun_4 rfl (lv_at hl 1 rfl) ?_
  refine QryI.callV (ci := 1) (q0 := 0) (c_has l dC dI cI cL cB tr y1 y2 y3 y4 y5 nT x (by omega)) ⟨hx, hb, hml, hown, hw⟩ (fz_cwV 1 hw m_132 m_129 m_130 m_131 m_2 rfl rfl (by decide +kernel) ⟨Nat.le_of_ble_eq_true rfl, Nat.le_of_ble_eq_true rfl⟩) hK hP [1] rfl rfl rfl rfl rfl hl.1 rfl (Nat.le_of_ble_eq_true rfl) d_F_isRun_5 ⟨(Nat.le_of_ble_eq_true rfl), (Nat.le_of_ble_eq_true rfl)⟩ (fun r5 h5 => ?_)
  obtain ⟨b5, hb5, e5, hok5⟩ := h5
  subst e5
  refine lv_if_eq (tgt := 58) hx hb d_F_isRun_8 (by decide) (fun c8 => ?_) (fun c8 => ?_)
  · have c8 : b5 = 0 := (nI_eq (by omega) (by omega)).mp (c8.trans nI_0.symm)
    refine lv_iconst (v := nI 0) hx hb d_F_isRun_58 (by decide) ?_
    exact hret (nI 0) 59 ls (Or.inl rfl) ⟨0, by omega, rfl, fun h => absurd h (by omega), fun h => absurd h (fun q => absurd (hok5.mpr q.1) (by omega))⟩ d_F_isRun_59
  · have c8 : ¬ b5 = 0 := fun h => c8 (((nI_eq (by omega) (by omega)).mpr h).trans nI_0)
    refine lv_iload hx hb d_F_isRun_11 (lv_at hl 3 rfl) ?_
    refine lv_if_lt (tgt := 58) hx hb d_F_isRun_13 (by decide) (fun c13 => ?_) (fun c13 => ?_)
    · refine lv_iconst (v := nI 0) hx hb d_F_isRun_58 (by decide) ?_
      exact hret (nI 0) 59 ls (Or.inl rfl) ⟨0, by omega, rfl, fun h => absurd h (by omega), fun h => absurd h (fun q => okN_lt (by omega) c13 q.2.1)⟩ d_F_isRun_59
    · refine lv_iload hx hb d_F_isRun_16 (lv_at hl 3 rfl) ?_
      refine lv_sipush (v := nI 20000) hx hb d_F_isRun_18 (by decide) ?_
      refine lv_icmp_gt (tgt := 58) hx hb d_F_isRun_21 (by decide) (fun c21 => ?_) (fun c21 => ?_)
      · refine lv_iconst (v := nI 0) hx hb d_F_isRun_58 (by decide) ?_
        exact hret (nI 0) 59 ls (Or.inl rfl) ⟨0, by omega, rfl, fun h => absurd h (by omega), fun h => absurd h (fun q => okN_gt (by omega) c21 q.2.1)⟩ d_F_isRun_59
      · refine lv_iload hx hb d_F_isRun_24 (lv_at hl 4 rfl) ?_
        refine lv_iconst (v := nI 1) hx hb d_F_isRun_26 (by decide) ?_
        refine lv_icmp_lt (tgt := 58) hx hb d_F_isRun_27 (by decide) (fun c27 => ?_) (fun c27 => ?_)
        · refine lv_iconst (v := nI 0) hx hb d_F_isRun_58 (by decide) ?_
          exact hret (nI 0) 59 ls (Or.inl rfl) ⟨0, by omega, rfl, fun h => absurd h (by omega), fun h => absurd h (fun q => okT_lt (by omega) c27 q.2.2.1)⟩ d_F_isRun_59
        · refine lv_iload hx hb d_F_isRun_30 (lv_at hl 4 rfl) ?_
          refine lv_sipush (v := nI 1000) hx hb d_F_isRun_32 (by decide) ?_
          refine lv_icmp_gt (tgt := 58) hx hb d_F_isRun_35 (by decide) (fun c35 => ?_) (fun c35 => ?_)
          · refine lv_iconst (v := nI 0) hx hb d_F_isRun_58 (by decide) ?_
            exact hret (nI 0) 59 ls (Or.inl rfl) ⟨0, by omega, rfl, fun h => absurd h (by omega), fun h => absurd h (fun q => okT_gt (by omega) c35 q.2.2.1)⟩ d_F_isRun_59
          · refine lv_lload_n hx hb d_F_isRun_38 rfl (lv_at hl 2 rfl) ?_
            refine lv_ldc2 (v := -1000000) hx hb hown (hw _ m_265) d_F_isRun_39 ?_
            refine W.lcmp hx hb d_F_isRun_42 ?_
            refine lv_if_lt (tgt := 58) hx hb d_F_isRun_43 (by decide) (fun c43 => ?_) (fun c43 => ?_)
            · have c43 : frm < (-1000000) := (lg_cmp_lt _ _).mp c43
              refine lv_iconst (v := nI 0) hx hb d_F_isRun_58 (by decide) ?_
              exact hret (nI 0) 59 ls (Or.inl rfl) ⟨0, by omega, rfl, fun h => absurd h (by omega), fun h => absurd h (fun q => q.2.2.2.1 c43)⟩ d_F_isRun_59
            · have c43 : ¬ frm < (-1000000) := fun h => c43 ((lg_cmp_lt _ _).mpr h)
              refine lv_lload_n hx hb d_F_isRun_46 rfl (lv_at hl 2 rfl) ?_
              refine lv_ldc2 (v := 1000000) hx hb hown (hw _ m_266) d_F_isRun_47 ?_
              refine fz_eql (y := lN 1000000) (by decide) ?_
              refine W.lcmp hx hb d_F_isRun_50 ?_
              refine lv_if_gt (tgt := 58) hx hb d_F_isRun_51 (by decide) (fun c51 => ?_) (fun c51 => ?_)
              · have c51 : lN 1000000 < frm := (lg_cmp_gt _ _).mp c51
                refine lv_iconst (v := nI 0) hx hb d_F_isRun_58 (by decide) ?_
                exact hret (nI 0) 59 ls (Or.inl rfl) ⟨0, by omega, rfl, fun h => absurd h (by omega), fun h => absurd h (fun q => q.2.2.2.2 c51)⟩ d_F_isRun_59
              · have c51 : ¬ lN 1000000 < frm := fun h => c51 ((lg_cmp_gt _ _).mpr h)
                refine lv_iconst (v := nI 1) hx hb d_F_isRun_54 (by decide) ?_
                refine lv_goto (tgt := 59) hx hb d_F_isRun_55 (by decide) ?_
                exact hret (nI 1) 59 ls (Or.inr rfl) ⟨1, by omega, rfl, fun _ => ⟨hok5.mp (by omega), okN_of (by omega) c13 c21, okT_of (by omega) c27 c35, c43, c51⟩, fun _ => rfl⟩ d_F_isRun_59
set_option maxHeartbeats 4000000 in
set_option maxRecDepth 100000 in
/-- isPlace -/
theorem c_isPlace (l : Launch) (dC : Nat → ClassId) (dI : Nat → Nat → Nat) (cI cL cB : ClassId) (x0 : Nat) (tr : Nat) (f : Nat) (y1 : Nat) (y2 : Nat) (y3 : Nat) (y4 : Nat) (y5 : Nat) (a1 : Nat) (a2 : Nat) (a3 : Nat) (a4 : Nat) (a5 : Nat) (a6 : Nat) (ck : Nat) (nT : Nat) (g : Nat) (gt : Nat) (cn : Int64) (a : AS) (fi : Nat → Nat) (la : Nat → Nat) (kc : Nat → Nat) (vc : Nat → Nat) (bo : Nat → Nat) (ow : Nat → Nat) (ky : Nat → Int64) (kd : Nat → Nat) (nu : Nat → Int64) (fo : Nat → Nat) (sn : Nat → Nat) (x : Int32) (i : Int32) (hCI : CI nT a g gt ow ky kd nu fo sn fi la kc vc bo) : QryI l y_F_isPlace (wd y_F_isPlace b_F_isPlace 3 (some .boolean)) 1 21 (dC, dI) classes (tyK cI cL cB) [.ref x0, .int x, .int i] [(x0, .inr (0, [.ref tr, .ref f, .int (nI ck), .long cn])), (tr, .inr (1, [.int (nI nT), .ref y1, .ref y2, .ref y3, .ref y4, .ref y5])), (y1, .inl (cI, hz_R gt, .inl (nf fi))), (y2, .inl (cI, hz_R gt, .inl (nf la))), (y3, .inl (cI, hz_R gt, .inl (nf kc))), (y4, .inl (cI, hz_R gt, .inl (nf vc))), (y5, .inl (cI, hz_R gt, .inl (nf bo))), (f, .inr (2, [.int (nI (aN a)), .ref a1, .ref a2, .ref a3, .ref a4, .ref a5, .ref a6])), (a1, .inl (cI, hz_L g, .inl (nf ow))), (a2, .inl (cL, hz_L g, .inr (.inl ky))), (a3, .inl (cB, hz_L g, .inl (nf kd))), (a4, .inl (cL, hz_L g, .inr (.inl nu))), (a5, .inl (cI, hz_L g, .inl (nf fo))), (a6, .inl (cI, hz_M g, .inl (nf sn)))] (fun r : Int32 => ∃ b, b ≤ 1 ∧ r = nI b ∧ (b = 1 ↔ (okT nT x ∧ okT (bd a (tN x) + 1) i))) := by
  obtain ⟨hCS, hCT, hgt, hRT⟩ := id hCI
  have hAI := hCS.1
  have hnT := hCS.2.1
  have hg := hCS.2.2.1
  have hnL := hCS.2.2.2.1
  have hAg := hCS.2.2.2.2.1
  have hk8 := hCS.2.2.2.2.2.1
  have hT := hCS.2.2.2.2.2.2
  have hO := hCS.O
  have hU := hCS.U
  have hg1 := hz_gen g hg
  have hg2 := hz_Rgen gt hgt
  have hn4 := hAI.1
  refine QryZ.mk (cc := b_F_isPlace) (maxL := 3) (by decide) rfl (Nat.le_of_ble_eq_true rfl) ?_
  intro p e s m below meth c Z ls hx hb hml hown hts hP hK hret hl
  have hP : va_P (dC, dI) classes [(x0, .inr (0, [.ref tr, .ref f, .int (nI ck), .long cn])), (tr, .inr (1, [.int (nI nT), .ref y1, .ref y2, .ref y3, .ref y4, .ref y5])), (y1, .inl (cI, hz_R gt, .inl (nf fi))), (y2, .inl (cI, hz_R gt, .inl (nf la))), (y3, .inl (cI, hz_R gt, .inl (nf kc))), (y4, .inl (cI, hz_R gt, .inl (nf vc))), (y5, .inl (cI, hz_R gt, .inl (nf bo))), (f, .inr (2, [.int (nI (aN a)), .ref a1, .ref a2, .ref a3, .ref a4, .ref a5, .ref a6])), (a1, .inl (cI, hz_L g, .inl (nf ow))), (a2, .inl (cL, hz_L g, .inr (.inl ky))), (a3, .inl (cB, hz_L g, .inl (nf kd))), (a4, .inl (cL, hz_L g, .inr (.inl nu))), (a5, .inl (cI, hz_L g, .inl (nf fo))), (a6, .inl (cI, hz_M g, .inl (nf sn)))] s.heap := hP
  have hown : s.vm.findClass R_F = some m.cls := hown
  have hw : ∀ x ∈ WALL, x.before _ s = true := fun x h => hts x (List.mem_cons_of_mem _ h)
  have hl : lv_has ls 3 [(0, .ref x0), (1, .int x), (2, .int i)] := hl
  refine lv_aload_n hx hb d_F_isPlace_0 rfl (lv_at hl 0 rfl) ?_
  refine va_get (D := (dC, dI)) (ci := 0) (v := .ref tr) (C := R_F) (T := T_F) (N := 4) hx hb hw in_F hown hK hP 0 rfl rfl 0 (by decide) (hw _ m_83) (fun _ h9 => h9) rfl d_F_isPlace_1 ?_
  refine lv_iload_n hx hb d_F_isPlace_4 rfl (lv_at hl 1 rfl) ?_
  refine QryI.callV (ci := 1) (q0 := 0) (c_has l dC dI cI cL cB tr y1 y2 y3 y4 y5 nT x (by omega)) ⟨hx, hb, hml, hown, hw⟩ (fz_cwV 1 hw m_132 m_129 m_130 m_131 m_2 rfl rfl (by decide +kernel) ⟨Nat.le_of_ble_eq_true rfl, Nat.le_of_ble_eq_true rfl⟩) hK hP [1] rfl rfl rfl rfl rfl hl.1 rfl (Nat.le_of_ble_eq_true rfl) d_F_isPlace_5 ⟨(Nat.le_of_ble_eq_true rfl), (Nat.le_of_ble_eq_true rfl)⟩ (fun r5 h5 => ?_)
  obtain ⟨b5, hb5, e5, hok5⟩ := h5
  subst e5
  refine lv_if_eq (tgt := 35) hx hb d_F_isPlace_8 (by decide) (fun c8 => ?_) (fun c8 => ?_)
  · have c8 : b5 = 0 := (nI_eq (by omega) (by omega)).mp (c8.trans nI_0.symm)
    refine lv_iconst (v := nI 0) hx hb d_F_isPlace_35 (by decide) ?_
    exact hret (nI 0) 36 ls (Or.inl rfl) ⟨0, by omega, rfl, fun h => absurd h (by omega), fun h => absurd h (fun q => absurd (hok5.mpr q.1) (by omega))⟩ d_F_isPlace_36
  · have c8 : ¬ b5 = 0 := fun h => c8 (((nI_eq (by omega) (by omega)).mpr h).trans nI_0)
    obtain ⟨t, ht1, ht2, ext⟩ := hok5.mp (by omega)
    rw [ext] at hl
    have eb9 : bd a (tN x) = bo t := by rw [ext, tN_nI (by omega)]; exact bd_eq (hCT.b ht1 ht2)
    have hbn := (hCT.b ht1 ht2).le hAI
    refine lv_iload_n hx hb d_F_isPlace_11 rfl (lv_at hl 2 rfl) ?_
    refine lv_iconst (v := nI 1) hx hb d_F_isPlace_12 (by decide) ?_
    refine lv_icmp_lt (tgt := 35) hx hb d_F_isPlace_13 (by decide) (fun c13 => ?_) (fun c13 => ?_)
    · refine lv_iconst (v := nI 0) hx hb d_F_isPlace_35 (by decide) ?_
      exact hret (nI 0) 36 ls (Or.inl rfl) ⟨0, by omega, rfl, fun h => absurd h (by omega), fun h => absurd h (fun q => okT_lt (by rw [eb9]; omega) c13 q.2)⟩ d_F_isPlace_36
    · refine lv_iload_n hx hb d_F_isPlace_16 rfl (lv_at hl 2 rfl) ?_
      refine lv_aload_n hx hb d_F_isPlace_17 rfl (lv_at hl 0 rfl) ?_
      refine va_get (D := (dC, dI)) (ci := 0) (v := .ref tr) (C := R_F) (T := T_F) (N := 4) hx hb hw in_F hown hK hP 0 rfl rfl 0 (by decide) (hw _ m_83) (fun _ h9 => h9) rfl d_F_isPlace_18 ?_
      refine va_get (D := (dC, dI)) (ci := 1) (v := .ref y5) (C := R_T) (T := T_T) (N := 6) hx hb hw in_T hown hK hP 1 rfl rfl 5 (by decide) (hw _ m_33) (fun _ h9 => h9) rfl d_F_isPlace_21 ?_
      refine lv_iload_n hx hb d_F_isPlace_24 rfl (lv_at hl 1 rfl) ?_
      refine fz_iald hx hb hK hP 6 0 rfl rfl (j := t) (by omega) (by omega) d_F_isPlace_25 ?_
      refine lv_iconst (v := nI 1) hx hb d_F_isPlace_26 (by decide) ?_
      refine lv_iadd hx hb d_F_isPlace_27 ?_
      refine fz_eqi (y := nI ((bo t) + 1)) (nI_add (bo t) 1) ?_
      refine lv_icmp_gt (tgt := 35) hx hb d_F_isPlace_28 (by decide) (fun c28 => ?_) (fun c28 => ?_)
      · refine lv_iconst (v := nI 0) hx hb d_F_isPlace_35 (by decide) ?_
        exact hret (nI 0) 36 ls (Or.inl rfl) ⟨0, by omega, rfl, fun h => absurd h (by omega), fun h => absurd h (fun q => okT_gt (by rw [eb9]; omega) (by rw [eb9]; exact c28) q.2)⟩ d_F_isPlace_36
      · refine lv_iconst (v := nI 1) hx hb d_F_isPlace_31 (by decide) ?_
        refine lv_goto (tgt := 36) hx hb d_F_isPlace_32 (by decide) ?_
        exact hret (nI 1) 36 ls (Or.inr rfl) ⟨1, by omega, rfl, fun _ => ⟨hok5.mp (by omega), by rw [eb9]; exact okT_of (by omega) c13 c28⟩, fun _ => rfl⟩ d_F_isPlace_36
set_option maxHeartbeats 4000000 in
set_option maxRecDepth 100000 in
/-- kindAt -/
theorem c_kindAt (l : Launch) (dC : Nat → ClassId) (dI : Nat → Nat → Nat) (cI cL cB : ClassId) (x0 : Nat) (tr : Nat) (f : Nat) (y1 : Nat) (y2 : Nat) (y3 : Nat) (y4 : Nat) (y5 : Nat) (a1 : Nat) (a2 : Nat) (a3 : Nat) (a4 : Nat) (a5 : Nat) (a6 : Nat) (ck : Nat) (nT : Nat) (g : Nat) (gt : Nat) (cn : Int64) (a : AS) (fi : Nat → Nat) (la : Nat → Nat) (kc : Nat → Nat) (vc : Nat → Nat) (bo : Nat → Nat) (ow : Nat → Nat) (ky : Nat → Int64) (kd : Nat → Nat) (nu : Nat → Int64) (fo : Nat → Nat) (sn : Nat → Nat) (x : Int32) (kk : Int32) (k : Int64) (hCI : CI nT a g gt ow ky kd nu fo sn fi la kc vc bo) : QryI l y_F_kindAt (wd y_F_kindAt b_F_kindAt 5 (some .int)) 3 75 (dC, dI) classes (tyK cI cL cB) [.ref x0, .int x, .int kk, .long k] [(x0, .inr (0, [.ref tr, .ref f, .int (nI ck), .long cn])), (tr, .inr (1, [.int (nI nT), .ref y1, .ref y2, .ref y3, .ref y4, .ref y5])), (y1, .inl (cI, hz_R gt, .inl (nf fi))), (y2, .inl (cI, hz_R gt, .inl (nf la))), (y3, .inl (cI, hz_R gt, .inl (nf kc))), (y4, .inl (cI, hz_R gt, .inl (nf vc))), (y5, .inl (cI, hz_R gt, .inl (nf bo))), (f, .inr (2, [.int (nI (aN a)), .ref a1, .ref a2, .ref a3, .ref a4, .ref a5, .ref a6])), (a1, .inl (cI, hz_L g, .inl (nf ow))), (a2, .inl (cL, hz_L g, .inr (.inl ky))), (a3, .inl (cB, hz_L g, .inl (nf kd))), (a4, .inl (cL, hz_L g, .inr (.inl nu))), (a5, .inl (cI, hz_L g, .inl (nf fo))), (a6, .inl (cI, hz_M g, .inl (nf sn)))] (fun r : Int32 => r = fKindAt nT a x kk k) := by
  obtain ⟨hCS, hCT, hgt, hRT⟩ := id hCI
  have hAI := hCS.1
  have hnT := hCS.2.1
  have hg := hCS.2.2.1
  have hnL := hCS.2.2.2.1
  have hAg := hCS.2.2.2.2.1
  have hk8 := hCS.2.2.2.2.2.1
  have hT := hCS.2.2.2.2.2.2
  have hO := hCS.O
  have hU := hCS.U
  have hg1 := hz_gen g hg
  have hg2 := hz_Rgen gt hgt
  have hn4 := hAI.1
  refine QryI.mk (cc := b_F_kindAt) (maxL := 5) (by decide) rfl (Nat.le_of_ble_eq_true rfl) ?_
  intro p e s m below meth c Z ls hx hb hml hown hts hP hK hret hl
  have hP : va_P (dC, dI) classes [(x0, .inr (0, [.ref tr, .ref f, .int (nI ck), .long cn])), (tr, .inr (1, [.int (nI nT), .ref y1, .ref y2, .ref y3, .ref y4, .ref y5])), (y1, .inl (cI, hz_R gt, .inl (nf fi))), (y2, .inl (cI, hz_R gt, .inl (nf la))), (y3, .inl (cI, hz_R gt, .inl (nf kc))), (y4, .inl (cI, hz_R gt, .inl (nf vc))), (y5, .inl (cI, hz_R gt, .inl (nf bo))), (f, .inr (2, [.int (nI (aN a)), .ref a1, .ref a2, .ref a3, .ref a4, .ref a5, .ref a6])), (a1, .inl (cI, hz_L g, .inl (nf ow))), (a2, .inl (cL, hz_L g, .inr (.inl ky))), (a3, .inl (cB, hz_L g, .inl (nf kd))), (a4, .inl (cL, hz_L g, .inr (.inl nu))), (a5, .inl (cI, hz_L g, .inl (nf fo))), (a6, .inl (cI, hz_M g, .inl (nf sn)))] s.heap := hP
  have hown : s.vm.findClass R_F = some m.cls := hown
  have hw : ∀ x ∈ WALL, x.before _ s = true := fun x h => hts x (List.mem_cons_of_mem _ h)
  have hl : lv_has ls 5 [(0, .ref x0), (1, .int x), (2, .int kk), (3, .long k)] := hl
  refine lv_aload_n hx hb d_F_kindAt_0 rfl (lv_at hl 0 rfl) ?_
  refine va_get (D := (dC, dI)) (ci := 0) (v := .ref tr) (C := R_F) (T := T_F) (N := 4) hx hb hw in_F hown hK hP 0 rfl rfl 0 (by decide) (hw _ m_83) (fun _ h9 => h9) rfl d_F_kindAt_1 ?_
  refine lv_iload_n hx hb d_F_kindAt_4 rfl (lv_at hl 1 rfl) ?_
  refine QryI.callV (ci := 1) (q0 := 0) (c_has l dC dI cI cL cB tr y1 y2 y3 y4 y5 nT x (by omega)) ⟨hx, hb, hml, hown, hw⟩ (fz_cwV 1 hw m_132 m_129 m_130 m_131 m_2 rfl rfl (by decide +kernel) ⟨Nat.le_of_ble_eq_true rfl, Nat.le_of_ble_eq_true rfl⟩) hK hP [1] rfl rfl rfl rfl rfl hl.1 rfl (Nat.le_of_ble_eq_true rfl) d_F_kindAt_5 ⟨(Nat.le_of_ble_eq_true rfl), (Nat.le_of_ble_eq_true rfl)⟩ (fun r5 h5 => ?_)
  obtain ⟨b5, hb5, e5, hok5⟩ := h5
  subst e5
  refine lv_if_eq (tgt := 18) hx hb d_F_kindAt_8 (by decide) (fun c8 => ?_) (fun c8 => ?_)
  · have c8 : b5 = 0 := (nI_eq (by omega) (by omega)).mp (c8.trans nI_0.symm)
    refine lv_iconst (v := -1) hx hb d_F_kindAt_18 (by decide) ?_
    exact hret (-1) 19 ls (by unfold fKindAt; rw [ifc_neg (fun h => absurd (hok5.mpr h.1) (by omega))]) d_F_kindAt_19
  · have c8 : ¬ b5 = 0 := fun h => c8 (((nI_eq (by omega) (by omega)).mpr h).trans nI_0)
    refine lv_iload_n hx hb d_F_kindAt_11 rfl (lv_at hl 2 rfl) ?_
    refine QryI.callS (c_isKeyKind l dC dI cI cL cB kk ) ⟨hx, hb, hml, hown, hw⟩ (fz_cwS 1 hw m_135 m_133 m_134 m_1 rfl rfl (by decide +kernel) ⟨Nat.le_of_ble_eq_true rfl, Nat.le_of_ble_eq_true rfl⟩) hK hP [] rfl rfl hl.1 rfl (Nat.le_of_ble_eq_true rfl) d_F_kindAt_12 ⟨(Nat.le_of_ble_eq_true rfl), (Nat.le_of_ble_eq_true rfl)⟩ (fun r12 h12 => ?_)
    obtain ⟨b12, hb12, e12, hok12⟩ := h12
    subst e12
    refine lv_if_ne (tgt := 20) hx hb d_F_kindAt_15 (by decide) (fun c15 => ?_) (fun c15 => ?_)
    · have c15 : ¬ b12 = 0 := fun h => c15 (((nI_eq (by omega) (by omega)).mpr h).trans nI_0)
      obtain ⟨t, ht1, ht2, ext⟩ := hok5.mp (by omega)
      rw [ext] at hl
      obtain ⟨j, hj1, hj2, exj⟩ := hok12.mp (by omega)
      rw [exj] at hl
      refine lv_aload_n hx hb d_F_kindAt_20 rfl (lv_at hl 0 rfl) ?_
      refine va_get (D := (dC, dI)) (ci := 0) (v := .ref f) (C := R_F) (T := T_F) (N := 4) hx hb hw in_F hown hK hP 0 rfl rfl 1 (by decide) (hw _ m_84) (fun _ h9 => h9) rfl d_F_kindAt_21 ?_
      refine va_get (D := (dC, dI)) (ci := 2) (v := .ref a3) (C := R_S) (T := T_S) (N := 7) hx hb hw in_S hown hK hP 7 rfl rfl 3 (by decide) (hw _ m_60) (fun _ h9 => h9) rfl d_F_kindAt_24 ?_
      refine lv_aload_n hx hb d_F_kindAt_27 rfl (lv_at hl 0 rfl) ?_
      refine va_get (D := (dC, dI)) (ci := 0) (v := .ref f) (C := R_F) (T := T_F) (N := 4) hx hb hw in_F hown hK hP 0 rfl rfl 1 (by decide) (hw _ m_84) (fun _ h9 => h9) rfl d_F_kindAt_28 ?_
      refine lv_iload_n hx hb d_F_kindAt_31 rfl (lv_at hl 1 rfl) ?_
      refine lv_iload_n hx hb d_F_kindAt_32 rfl (lv_at hl 2 rfl) ?_
      refine lv_lload_n hx hb d_F_kindAt_33 rfl (lv_at hl 3 rfl) ?_
      refine QryI.callV (ci := 2) (q0 := 0) (c_find l dC dI cI cL cB f a1 a2 a3 a4 a5 a6 (aN a) (hz_L g) (hz_M g) (7 + 2 * g) (aN a) t j k ow sn ky (by omega) (by omega) rfl (by omega) (by omega) (by omega) (by omega) hO hU hT) ⟨hx, hb, hml, hown, hw⟩ (fz_cwV 3 hw m_147 m_144 m_145 m_146 m_3 rfl rfl (by decide +kernel) ⟨Nat.le_of_ble_eq_true rfl, Nat.le_of_ble_eq_true rfl⟩) hK hP [7, 8, 9, 13] rfl rfl rfl rfl rfl hl.1 rfl (Nat.le_of_ble_eq_true rfl) d_F_kindAt_34 ⟨(Nat.le_of_ble_eq_true rfl), (Nat.le_of_ble_eq_true rfl)⟩ (fun r34 h34 => ?_)
      rw [hCS.F] at h34
      subst h34
      refine fz_bald hx hb hK hP 10 2 rfl rfl (j := aF a (t * 8 + j) k) (Nat.lt_of_le_of_lt (aF_le _ _ _) hnL) (by omega) d_F_kindAt_37 ?_
      exact hret (nI (kd (aF a (t * 8 + j) k))) 38 ls (by unfold fKindAt; rw [ifc_pos ⟨hok5.mp (by omega), hok12.mp (by omega)⟩, ext, exj, tN_nI (by omega), tN_nI (by omega)]; rw [hCS.D]) d_F_kindAt_38
    · have c15 : b12 = 0 := (nI_eq (by omega) (by omega)).mp (c15.trans nI_0.symm)
      refine lv_iconst (v := -1) hx hb d_F_kindAt_18 (by decide) ?_
      exact hret (-1) 19 ls (by unfold fKindAt; rw [ifc_neg (fun h => absurd (hok12.mpr h.2) (by omega))]) d_F_kindAt_19
set_option maxHeartbeats 4000000 in
set_option maxRecDepth 100000 in
/-- numberAt -/
theorem c_numberAt (l : Launch) (dC : Nat → ClassId) (dI : Nat → Nat → Nat) (cI cL cB : ClassId) (x0 : Nat) (tr : Nat) (f : Nat) (y1 : Nat) (y2 : Nat) (y3 : Nat) (y4 : Nat) (y5 : Nat) (a1 : Nat) (a2 : Nat) (a3 : Nat) (a4 : Nat) (a5 : Nat) (a6 : Nat) (ck : Nat) (nT : Nat) (g : Nat) (gt : Nat) (cn : Int64) (a : AS) (fi : Nat → Nat) (la : Nat → Nat) (kc : Nat → Nat) (vc : Nat → Nat) (bo : Nat → Nat) (ow : Nat → Nat) (ky : Nat → Int64) (kd : Nat → Nat) (nu : Nat → Int64) (fo : Nat → Nat) (sn : Nat → Nat) (x : Int32) (kk : Int32) (k : Int64) (hCI : CI nT a g gt ow ky kd nu fo sn fi la kc vc bo) : QryL l y_F_numberAt (wd y_F_numberAt b_F_numberAt 5 (some .long)) 3 75 (dC, dI) classes (tyK cI cL cB) [.ref x0, .int x, .int kk, .long k] [(x0, .inr (0, [.ref tr, .ref f, .int (nI ck), .long cn])), (tr, .inr (1, [.int (nI nT), .ref y1, .ref y2, .ref y3, .ref y4, .ref y5])), (y1, .inl (cI, hz_R gt, .inl (nf fi))), (y2, .inl (cI, hz_R gt, .inl (nf la))), (y3, .inl (cI, hz_R gt, .inl (nf kc))), (y4, .inl (cI, hz_R gt, .inl (nf vc))), (y5, .inl (cI, hz_R gt, .inl (nf bo))), (f, .inr (2, [.int (nI (aN a)), .ref a1, .ref a2, .ref a3, .ref a4, .ref a5, .ref a6])), (a1, .inl (cI, hz_L g, .inl (nf ow))), (a2, .inl (cL, hz_L g, .inr (.inl ky))), (a3, .inl (cB, hz_L g, .inl (nf kd))), (a4, .inl (cL, hz_L g, .inr (.inl nu))), (a5, .inl (cI, hz_L g, .inl (nf fo))), (a6, .inl (cI, hz_M g, .inl (nf sn)))] (fun r : Int64 => r = fNumberAt nT a x kk k) := by
  obtain ⟨hCS, hCT, hgt, hRT⟩ := id hCI
  have hAI := hCS.1
  have hnT := hCS.2.1
  have hg := hCS.2.2.1
  have hnL := hCS.2.2.2.1
  have hAg := hCS.2.2.2.2.1
  have hk8 := hCS.2.2.2.2.2.1
  have hT := hCS.2.2.2.2.2.2
  have hO := hCS.O
  have hU := hCS.U
  have hg1 := hz_gen g hg
  have hg2 := hz_Rgen gt hgt
  have hn4 := hAI.1
  refine QryL.mk (cc := b_F_numberAt) (maxL := 5) (by decide) rfl (Nat.le_of_ble_eq_true rfl) ?_
  intro p e s m below meth c Z ls hx hb hml hown hts hP hK hret hl
  have hP : va_P (dC, dI) classes [(x0, .inr (0, [.ref tr, .ref f, .int (nI ck), .long cn])), (tr, .inr (1, [.int (nI nT), .ref y1, .ref y2, .ref y3, .ref y4, .ref y5])), (y1, .inl (cI, hz_R gt, .inl (nf fi))), (y2, .inl (cI, hz_R gt, .inl (nf la))), (y3, .inl (cI, hz_R gt, .inl (nf kc))), (y4, .inl (cI, hz_R gt, .inl (nf vc))), (y5, .inl (cI, hz_R gt, .inl (nf bo))), (f, .inr (2, [.int (nI (aN a)), .ref a1, .ref a2, .ref a3, .ref a4, .ref a5, .ref a6])), (a1, .inl (cI, hz_L g, .inl (nf ow))), (a2, .inl (cL, hz_L g, .inr (.inl ky))), (a3, .inl (cB, hz_L g, .inl (nf kd))), (a4, .inl (cL, hz_L g, .inr (.inl nu))), (a5, .inl (cI, hz_L g, .inl (nf fo))), (a6, .inl (cI, hz_M g, .inl (nf sn)))] s.heap := hP
  have hown : s.vm.findClass R_F = some m.cls := hown
  have hw : ∀ x ∈ WALL, x.before _ s = true := fun x h => hts x (List.mem_cons_of_mem _ h)
  have hl : lv_has ls 5 [(0, .ref x0), (1, .int x), (2, .int kk), (3, .long k)] := hl
  refine lv_aload_n hx hb d_F_numberAt_0 rfl (lv_at hl 0 rfl) ?_
  refine va_get (D := (dC, dI)) (ci := 0) (v := .ref tr) (C := R_F) (T := T_F) (N := 4) hx hb hw in_F hown hK hP 0 rfl rfl 0 (by decide) (hw _ m_83) (fun _ h9 => h9) rfl d_F_numberAt_1 ?_
  refine lv_iload_n hx hb d_F_numberAt_4 rfl (lv_at hl 1 rfl) ?_
  refine QryI.callV (ci := 1) (q0 := 0) (c_has l dC dI cI cL cB tr y1 y2 y3 y4 y5 nT x (by omega)) ⟨hx, hb, hml, hown, hw⟩ (fz_cwV 1 hw m_132 m_129 m_130 m_131 m_2 rfl rfl (by decide +kernel) ⟨Nat.le_of_ble_eq_true rfl, Nat.le_of_ble_eq_true rfl⟩) hK hP [1] rfl rfl rfl rfl rfl hl.1 rfl (Nat.le_of_ble_eq_true rfl) d_F_numberAt_5 ⟨(Nat.le_of_ble_eq_true rfl), (Nat.le_of_ble_eq_true rfl)⟩ (fun r5 h5 => ?_)
  obtain ⟨b5, hb5, e5, hok5⟩ := h5
  subst e5
  refine lv_if_eq (tgt := 18) hx hb d_F_numberAt_8 (by decide) (fun c8 => ?_) (fun c8 => ?_)
  · have c8 : b5 = 0 := (nI_eq (by omega) (by omega)).mp (c8.trans nI_0.symm)
    refine lv_lconst (v := lN 0) hx hb d_F_numberAt_18 rfl ?_
    exact hret (lN 0) 19 ls (by unfold fNumberAt; rw [ifc_neg (fun h => absurd (hok5.mpr h.1) (by omega))]; rfl) d_F_numberAt_19
  · have c8 : ¬ b5 = 0 := fun h => c8 (((nI_eq (by omega) (by omega)).mpr h).trans nI_0)
    refine lv_iload_n hx hb d_F_numberAt_11 rfl (lv_at hl 2 rfl) ?_
    refine QryI.callS (c_isKeyKind l dC dI cI cL cB kk ) ⟨hx, hb, hml, hown, hw⟩ (fz_cwS 1 hw m_135 m_133 m_134 m_1 rfl rfl (by decide +kernel) ⟨Nat.le_of_ble_eq_true rfl, Nat.le_of_ble_eq_true rfl⟩) hK hP [] rfl rfl hl.1 rfl (Nat.le_of_ble_eq_true rfl) d_F_numberAt_12 ⟨(Nat.le_of_ble_eq_true rfl), (Nat.le_of_ble_eq_true rfl)⟩ (fun r12 h12 => ?_)
    obtain ⟨b12, hb12, e12, hok12⟩ := h12
    subst e12
    refine lv_if_ne (tgt := 20) hx hb d_F_numberAt_15 (by decide) (fun c15 => ?_) (fun c15 => ?_)
    · have c15 : ¬ b12 = 0 := fun h => c15 (((nI_eq (by omega) (by omega)).mpr h).trans nI_0)
      obtain ⟨t, ht1, ht2, ext⟩ := hok5.mp (by omega)
      rw [ext] at hl
      obtain ⟨j, hj1, hj2, exj⟩ := hok12.mp (by omega)
      rw [exj] at hl
      refine lv_aload_n hx hb d_F_numberAt_20 rfl (lv_at hl 0 rfl) ?_
      refine va_get (D := (dC, dI)) (ci := 0) (v := .ref f) (C := R_F) (T := T_F) (N := 4) hx hb hw in_F hown hK hP 0 rfl rfl 1 (by decide) (hw _ m_84) (fun _ h9 => h9) rfl d_F_numberAt_21 ?_
      refine va_get (D := (dC, dI)) (ci := 2) (v := .ref a4) (C := R_S) (T := T_S) (N := 7) hx hb hw in_S hown hK hP 7 rfl rfl 4 (by decide) (hw _ m_62) (fun _ h9 => h9) rfl d_F_numberAt_24 ?_
      refine lv_aload_n hx hb d_F_numberAt_27 rfl (lv_at hl 0 rfl) ?_
      refine va_get (D := (dC, dI)) (ci := 0) (v := .ref f) (C := R_F) (T := T_F) (N := 4) hx hb hw in_F hown hK hP 0 rfl rfl 1 (by decide) (hw _ m_84) (fun _ h9 => h9) rfl d_F_numberAt_28 ?_
      refine lv_iload_n hx hb d_F_numberAt_31 rfl (lv_at hl 1 rfl) ?_
      refine lv_iload_n hx hb d_F_numberAt_32 rfl (lv_at hl 2 rfl) ?_
      refine lv_lload_n hx hb d_F_numberAt_33 rfl (lv_at hl 3 rfl) ?_
      refine QryI.callV (ci := 2) (q0 := 0) (c_find l dC dI cI cL cB f a1 a2 a3 a4 a5 a6 (aN a) (hz_L g) (hz_M g) (7 + 2 * g) (aN a) t j k ow sn ky (by omega) (by omega) rfl (by omega) (by omega) (by omega) (by omega) hO hU hT) ⟨hx, hb, hml, hown, hw⟩ (fz_cwV 3 hw m_147 m_144 m_145 m_146 m_3 rfl rfl (by decide +kernel) ⟨Nat.le_of_ble_eq_true rfl, Nat.le_of_ble_eq_true rfl⟩) hK hP [7, 8, 9, 13] rfl rfl rfl rfl rfl hl.1 rfl (Nat.le_of_ble_eq_true rfl) d_F_numberAt_34 ⟨(Nat.le_of_ble_eq_true rfl), (Nat.le_of_ble_eq_true rfl)⟩ (fun r34 h34 => ?_)
      rw [hCS.F] at h34
      subst h34
      refine fz_lald hx hb hK hP 11 1 rfl rfl (j := aF a (t * 8 + j) k) (Nat.lt_of_le_of_lt (aF_le _ _ _) hnL) (by omega) d_F_numberAt_37 ?_
      exact hret (nu (aF a (t * 8 + j) k)) 38 ls (by unfold fNumberAt; rw [ifc_pos ⟨hok5.mp (by omega), hok12.mp (by omega)⟩, ext, exj, tN_nI (by omega), tN_nI (by omega)]; rw [hCS.V]) d_F_numberAt_38
    · have c15 : b12 = 0 := (nI_eq (by omega) (by omega)).mp (c15.trans nI_0.symm)
      refine lv_lconst (v := lN 0) hx hb d_F_numberAt_18 rfl ?_
      exact hret (lN 0) 19 ls (by unfold fNumberAt; rw [ifc_neg (fun h => absurd (hok12.mpr h.2) (by omega))]; rfl) d_F_numberAt_19
set_option maxHeartbeats 4000000 in
set_option maxRecDepth 100000 in
/-- border -/
theorem c_border (l : Launch) (dC : Nat → ClassId) (dI : Nat → Nat → Nat) (cI cL cB : ClassId) (x0 : Nat) (tr : Nat) (f : Nat) (y1 : Nat) (y2 : Nat) (y3 : Nat) (y4 : Nat) (y5 : Nat) (a1 : Nat) (a2 : Nat) (a3 : Nat) (a4 : Nat) (a5 : Nat) (a6 : Nat) (ck : Nat) (nT : Nat) (g : Nat) (gt : Nat) (cn : Int64) (a : AS) (fi : Nat → Nat) (la : Nat → Nat) (kc : Nat → Nat) (vc : Nat → Nat) (bo : Nat → Nat) (ow : Nat → Nat) (ky : Nat → Int64) (kd : Nat → Nat) (nu : Nat → Int64) (fo : Nat → Nat) (sn : Nat → Nat) (x : Int32) (hCI : CI nT a g gt ow ky kd nu fo sn fi la kc vc bo) : QryI l y_F_border (wd y_F_border b_F_border 2 (some .int)) 1 21 (dC, dI) classes (tyK cI cL cB) [.ref x0, .int x] [(x0, .inr (0, [.ref tr, .ref f, .int (nI ck), .long cn])), (tr, .inr (1, [.int (nI nT), .ref y1, .ref y2, .ref y3, .ref y4, .ref y5])), (y1, .inl (cI, hz_R gt, .inl (nf fi))), (y2, .inl (cI, hz_R gt, .inl (nf la))), (y3, .inl (cI, hz_R gt, .inl (nf kc))), (y4, .inl (cI, hz_R gt, .inl (nf vc))), (y5, .inl (cI, hz_R gt, .inl (nf bo))), (f, .inr (2, [.int (nI (aN a)), .ref a1, .ref a2, .ref a3, .ref a4, .ref a5, .ref a6])), (a1, .inl (cI, hz_L g, .inl (nf ow))), (a2, .inl (cL, hz_L g, .inr (.inl ky))), (a3, .inl (cB, hz_L g, .inl (nf kd))), (a4, .inl (cL, hz_L g, .inr (.inl nu))), (a5, .inl (cI, hz_L g, .inl (nf fo))), (a6, .inl (cI, hz_M g, .inl (nf sn)))] (fun r : Int32 => r = fBorder nT a x) := by
  obtain ⟨hCS, hCT, hgt, hRT⟩ := id hCI
  have hAI := hCS.1
  have hnT := hCS.2.1
  have hg := hCS.2.2.1
  have hnL := hCS.2.2.2.1
  have hAg := hCS.2.2.2.2.1
  have hk8 := hCS.2.2.2.2.2.1
  have hT := hCS.2.2.2.2.2.2
  have hO := hCS.O
  have hU := hCS.U
  have hg1 := hz_gen g hg
  have hg2 := hz_Rgen gt hgt
  have hn4 := hAI.1
  refine QryI.mk (cc := b_F_border) (maxL := 2) (by decide) rfl (Nat.le_of_ble_eq_true rfl) ?_
  intro p e s m below meth c Z ls hx hb hml hown hts hP hK hret hl
  have hP : va_P (dC, dI) classes [(x0, .inr (0, [.ref tr, .ref f, .int (nI ck), .long cn])), (tr, .inr (1, [.int (nI nT), .ref y1, .ref y2, .ref y3, .ref y4, .ref y5])), (y1, .inl (cI, hz_R gt, .inl (nf fi))), (y2, .inl (cI, hz_R gt, .inl (nf la))), (y3, .inl (cI, hz_R gt, .inl (nf kc))), (y4, .inl (cI, hz_R gt, .inl (nf vc))), (y5, .inl (cI, hz_R gt, .inl (nf bo))), (f, .inr (2, [.int (nI (aN a)), .ref a1, .ref a2, .ref a3, .ref a4, .ref a5, .ref a6])), (a1, .inl (cI, hz_L g, .inl (nf ow))), (a2, .inl (cL, hz_L g, .inr (.inl ky))), (a3, .inl (cB, hz_L g, .inl (nf kd))), (a4, .inl (cL, hz_L g, .inr (.inl nu))), (a5, .inl (cI, hz_L g, .inl (nf fo))), (a6, .inl (cI, hz_M g, .inl (nf sn)))] s.heap := hP
  have hown : s.vm.findClass R_F = some m.cls := hown
  have hw : ∀ x ∈ WALL, x.before _ s = true := fun x h => hts x (List.mem_cons_of_mem _ h)
  have hl : lv_has ls 2 [(0, .ref x0), (1, .int x)] := hl
  refine lv_aload_n hx hb d_F_border_0 rfl (lv_at hl 0 rfl) ?_
  refine va_get (D := (dC, dI)) (ci := 0) (v := .ref tr) (C := R_F) (T := T_F) (N := 4) hx hb hw in_F hown hK hP 0 rfl rfl 0 (by decide) (hw _ m_83) (fun _ h9 => h9) rfl d_F_border_1 ?_
  refine lv_iload_n hx hb d_F_border_4 rfl (lv_at hl 1 rfl) ?_
  refine QryI.callV (ci := 1) (q0 := 0) (c_has l dC dI cI cL cB tr y1 y2 y3 y4 y5 nT x (by omega)) ⟨hx, hb, hml, hown, hw⟩ (fz_cwV 1 hw m_132 m_129 m_130 m_131 m_2 rfl rfl (by decide +kernel) ⟨Nat.le_of_ble_eq_true rfl, Nat.le_of_ble_eq_true rfl⟩) hK hP [1] rfl rfl rfl rfl rfl hl.1 rfl (Nat.le_of_ble_eq_true rfl) d_F_border_5 ⟨(Nat.le_of_ble_eq_true rfl), (Nat.le_of_ble_eq_true rfl)⟩ (fun r5 h5 => ?_)
  obtain ⟨b5, hb5, e5, hok5⟩ := h5
  subst e5
  refine lv_if_eq (tgt := 23) hx hb d_F_border_8 (by decide) (fun c8 => ?_) (fun c8 => ?_)
  · have c8 : b5 = 0 := (nI_eq (by omega) (by omega)).mp (c8.trans nI_0.symm)
    refine lv_iconst (v := -1) hx hb d_F_border_23 (by decide) ?_
    exact hret (-1) 24 ls (by unfold fBorder; rw [ifc_neg (fun h => absurd (hok5.mpr h) (by omega))]) d_F_border_24
  · have c8 : ¬ b5 = 0 := fun h => c8 (((nI_eq (by omega) (by omega)).mpr h).trans nI_0)
    obtain ⟨t, ht1, ht2, ext⟩ := hok5.mp (by omega)
    rw [ext] at hl
    refine lv_aload_n hx hb d_F_border_11 rfl (lv_at hl 0 rfl) ?_
    refine va_get (D := (dC, dI)) (ci := 0) (v := .ref tr) (C := R_F) (T := T_F) (N := 4) hx hb hw in_F hown hK hP 0 rfl rfl 0 (by decide) (hw _ m_83) (fun _ h9 => h9) rfl d_F_border_12 ?_
    refine va_get (D := (dC, dI)) (ci := 1) (v := .ref y5) (C := R_T) (T := T_T) (N := 6) hx hb hw in_T hown hK hP 1 rfl rfl 5 (by decide) (hw _ m_33) (fun _ h9 => h9) rfl d_F_border_15 ?_
    refine lv_iload_n hx hb d_F_border_18 rfl (lv_at hl 1 rfl) ?_
    refine fz_iald hx hb hK hP 6 0 rfl rfl (j := t) (by omega) (by omega) d_F_border_19 ?_
    refine lv_goto (tgt := 24) hx hb d_F_border_20 (by decide) ?_
    exact hret (nI (bo t)) 24 ls (by unfold fBorder; rw [ifc_pos (hok5.mp (by omega)), ext, tN_nI (by omega), bd_eq (hCT.b ht1 ht2)]) d_F_border_24
set_option maxHeartbeats 4000000 in
set_option maxRecDepth 100000 in
/-- keys -/
theorem c_keys (l : Launch) (dC : Nat → ClassId) (dI : Nat → Nat → Nat) (cI cL cB : ClassId) (x0 : Nat) (tr : Nat) (f : Nat) (y1 : Nat) (y2 : Nat) (y3 : Nat) (y4 : Nat) (y5 : Nat) (a1 : Nat) (a2 : Nat) (a3 : Nat) (a4 : Nat) (a5 : Nat) (a6 : Nat) (ck : Nat) (nT : Nat) (g : Nat) (gt : Nat) (cn : Int64) (a : AS) (fi : Nat → Nat) (la : Nat → Nat) (kc : Nat → Nat) (vc : Nat → Nat) (bo : Nat → Nat) (ow : Nat → Nat) (ky : Nat → Int64) (kd : Nat → Nat) (nu : Nat → Int64) (fo : Nat → Nat) (sn : Nat → Nat) (x : Int32) (hCI : CI nT a g gt ow ky kd nu fo sn fi la kc vc bo) : QryI l y_F_keys (wd y_F_keys b_F_keys 2 (some .int)) 1 21 (dC, dI) classes (tyK cI cL cB) [.ref x0, .int x] [(x0, .inr (0, [.ref tr, .ref f, .int (nI ck), .long cn])), (tr, .inr (1, [.int (nI nT), .ref y1, .ref y2, .ref y3, .ref y4, .ref y5])), (y1, .inl (cI, hz_R gt, .inl (nf fi))), (y2, .inl (cI, hz_R gt, .inl (nf la))), (y3, .inl (cI, hz_R gt, .inl (nf kc))), (y4, .inl (cI, hz_R gt, .inl (nf vc))), (y5, .inl (cI, hz_R gt, .inl (nf bo))), (f, .inr (2, [.int (nI (aN a)), .ref a1, .ref a2, .ref a3, .ref a4, .ref a5, .ref a6])), (a1, .inl (cI, hz_L g, .inl (nf ow))), (a2, .inl (cL, hz_L g, .inr (.inl ky))), (a3, .inl (cB, hz_L g, .inl (nf kd))), (a4, .inl (cL, hz_L g, .inr (.inl nu))), (a5, .inl (cI, hz_L g, .inl (nf fo))), (a6, .inl (cI, hz_M g, .inl (nf sn)))] (fun r : Int32 => r = fKeys nT a x) := by
  obtain ⟨hCS, hCT, hgt, hRT⟩ := id hCI
  have hAI := hCS.1
  have hnT := hCS.2.1
  have hg := hCS.2.2.1
  have hnL := hCS.2.2.2.1
  have hAg := hCS.2.2.2.2.1
  have hk8 := hCS.2.2.2.2.2.1
  have hT := hCS.2.2.2.2.2.2
  have hO := hCS.O
  have hU := hCS.U
  have hg1 := hz_gen g hg
  have hg2 := hz_Rgen gt hgt
  have hn4 := hAI.1
  refine QryI.mk (cc := b_F_keys) (maxL := 2) (by decide) rfl (Nat.le_of_ble_eq_true rfl) ?_
  intro p e s m below meth c Z ls hx hb hml hown hts hP hK hret hl
  have hP : va_P (dC, dI) classes [(x0, .inr (0, [.ref tr, .ref f, .int (nI ck), .long cn])), (tr, .inr (1, [.int (nI nT), .ref y1, .ref y2, .ref y3, .ref y4, .ref y5])), (y1, .inl (cI, hz_R gt, .inl (nf fi))), (y2, .inl (cI, hz_R gt, .inl (nf la))), (y3, .inl (cI, hz_R gt, .inl (nf kc))), (y4, .inl (cI, hz_R gt, .inl (nf vc))), (y5, .inl (cI, hz_R gt, .inl (nf bo))), (f, .inr (2, [.int (nI (aN a)), .ref a1, .ref a2, .ref a3, .ref a4, .ref a5, .ref a6])), (a1, .inl (cI, hz_L g, .inl (nf ow))), (a2, .inl (cL, hz_L g, .inr (.inl ky))), (a3, .inl (cB, hz_L g, .inl (nf kd))), (a4, .inl (cL, hz_L g, .inr (.inl nu))), (a5, .inl (cI, hz_L g, .inl (nf fo))), (a6, .inl (cI, hz_M g, .inl (nf sn)))] s.heap := hP
  have hown : s.vm.findClass R_F = some m.cls := hown
  have hw : ∀ x ∈ WALL, x.before _ s = true := fun x h => hts x (List.mem_cons_of_mem _ h)
  have hl : lv_has ls 2 [(0, .ref x0), (1, .int x)] := hl
  refine lv_aload_n hx hb d_F_keys_0 rfl (lv_at hl 0 rfl) ?_
  refine va_get (D := (dC, dI)) (ci := 0) (v := .ref tr) (C := R_F) (T := T_F) (N := 4) hx hb hw in_F hown hK hP 0 rfl rfl 0 (by decide) (hw _ m_83) (fun _ h9 => h9) rfl d_F_keys_1 ?_
  refine lv_iload_n hx hb d_F_keys_4 rfl (lv_at hl 1 rfl) ?_
  refine QryI.callV (ci := 1) (q0 := 0) (c_has l dC dI cI cL cB tr y1 y2 y3 y4 y5 nT x (by omega)) ⟨hx, hb, hml, hown, hw⟩ (fz_cwV 1 hw m_132 m_129 m_130 m_131 m_2 rfl rfl (by decide +kernel) ⟨Nat.le_of_ble_eq_true rfl, Nat.le_of_ble_eq_true rfl⟩) hK hP [1] rfl rfl rfl rfl rfl hl.1 rfl (Nat.le_of_ble_eq_true rfl) d_F_keys_5 ⟨(Nat.le_of_ble_eq_true rfl), (Nat.le_of_ble_eq_true rfl)⟩ (fun r5 h5 => ?_)
  obtain ⟨b5, hb5, e5, hok5⟩ := h5
  subst e5
  refine lv_if_eq (tgt := 23) hx hb d_F_keys_8 (by decide) (fun c8 => ?_) (fun c8 => ?_)
  · have c8 : b5 = 0 := (nI_eq (by omega) (by omega)).mp (c8.trans nI_0.symm)
    refine lv_iconst (v := -1) hx hb d_F_keys_23 (by decide) ?_
    exact hret (-1) 24 ls (by unfold fKeys; rw [ifc_neg (fun h => absurd (hok5.mpr h) (by omega))]) d_F_keys_24
  · have c8 : ¬ b5 = 0 := fun h => c8 (((nI_eq (by omega) (by omega)).mpr h).trans nI_0)
    obtain ⟨t, ht1, ht2, ext⟩ := hok5.mp (by omega)
    rw [ext] at hl
    refine lv_aload_n hx hb d_F_keys_11 rfl (lv_at hl 0 rfl) ?_
    refine va_get (D := (dC, dI)) (ci := 0) (v := .ref tr) (C := R_F) (T := T_F) (N := 4) hx hb hw in_F hown hK hP 0 rfl rfl 0 (by decide) (hw _ m_83) (fun _ h9 => h9) rfl d_F_keys_12 ?_
    refine va_get (D := (dC, dI)) (ci := 1) (v := .ref y3) (C := R_T) (T := T_T) (N := 6) hx hb hw in_T hown hK hP 1 rfl rfl 3 (by decide) (hw _ m_29) (fun _ h9 => h9) rfl d_F_keys_15 ?_
    refine lv_iload_n hx hb d_F_keys_18 rfl (lv_at hl 1 rfl) ?_
    refine fz_iald hx hb hK hP 4 0 rfl rfl (j := t) (by omega) (by omega) d_F_keys_19 ?_
    refine lv_goto (tgt := 24) hx hb d_F_keys_20 (by decide) ?_
    exact hret (nI (kc t)) 24 ls (by unfold fKeys; rw [ifc_pos (hok5.mp (by omega)), ext, tN_nI (by omega), (hCT.2 t ht1 ht2).2.2.1.symm]) d_F_keys_24
set_option maxHeartbeats 4000000 in
set_option maxRecDepth 100000 in
/-- fields -/
theorem c_fields (l : Launch) (dC : Nat → ClassId) (dI : Nat → Nat → Nat) (cI cL cB : ClassId) (x0 : Nat) (tr : Nat) (f : Nat) (y1 : Nat) (y2 : Nat) (y3 : Nat) (y4 : Nat) (y5 : Nat) (a1 : Nat) (a2 : Nat) (a3 : Nat) (a4 : Nat) (a5 : Nat) (a6 : Nat) (ck : Nat) (nT : Nat) (g : Nat) (gt : Nat) (cn : Int64) (a : AS) (fi : Nat → Nat) (la : Nat → Nat) (kc : Nat → Nat) (vc : Nat → Nat) (bo : Nat → Nat) (ow : Nat → Nat) (ky : Nat → Int64) (kd : Nat → Nat) (nu : Nat → Int64) (fo : Nat → Nat) (sn : Nat → Nat) (x : Int32) (hCI : CI nT a g gt ow ky kd nu fo sn fi la kc vc bo) : QryI l y_F_fields (wd y_F_fields b_F_fields 2 (some .int)) 1 21 (dC, dI) classes (tyK cI cL cB) [.ref x0, .int x] [(x0, .inr (0, [.ref tr, .ref f, .int (nI ck), .long cn])), (tr, .inr (1, [.int (nI nT), .ref y1, .ref y2, .ref y3, .ref y4, .ref y5])), (y1, .inl (cI, hz_R gt, .inl (nf fi))), (y2, .inl (cI, hz_R gt, .inl (nf la))), (y3, .inl (cI, hz_R gt, .inl (nf kc))), (y4, .inl (cI, hz_R gt, .inl (nf vc))), (y5, .inl (cI, hz_R gt, .inl (nf bo))), (f, .inr (2, [.int (nI (aN a)), .ref a1, .ref a2, .ref a3, .ref a4, .ref a5, .ref a6])), (a1, .inl (cI, hz_L g, .inl (nf ow))), (a2, .inl (cL, hz_L g, .inr (.inl ky))), (a3, .inl (cB, hz_L g, .inl (nf kd))), (a4, .inl (cL, hz_L g, .inr (.inl nu))), (a5, .inl (cI, hz_L g, .inl (nf fo))), (a6, .inl (cI, hz_M g, .inl (nf sn)))] (fun r : Int32 => r = fFields nT a x) := by
  obtain ⟨hCS, hCT, hgt, hRT⟩ := id hCI
  have hAI := hCS.1
  have hnT := hCS.2.1
  have hg := hCS.2.2.1
  have hnL := hCS.2.2.2.1
  have hAg := hCS.2.2.2.2.1
  have hk8 := hCS.2.2.2.2.2.1
  have hT := hCS.2.2.2.2.2.2
  have hO := hCS.O
  have hU := hCS.U
  have hg1 := hz_gen g hg
  have hg2 := hz_Rgen gt hgt
  have hn4 := hAI.1
  refine QryI.mk (cc := b_F_fields) (maxL := 2) (by decide) rfl (Nat.le_of_ble_eq_true rfl) ?_
  intro p e s m below meth c Z ls hx hb hml hown hts hP hK hret hl
  have hP : va_P (dC, dI) classes [(x0, .inr (0, [.ref tr, .ref f, .int (nI ck), .long cn])), (tr, .inr (1, [.int (nI nT), .ref y1, .ref y2, .ref y3, .ref y4, .ref y5])), (y1, .inl (cI, hz_R gt, .inl (nf fi))), (y2, .inl (cI, hz_R gt, .inl (nf la))), (y3, .inl (cI, hz_R gt, .inl (nf kc))), (y4, .inl (cI, hz_R gt, .inl (nf vc))), (y5, .inl (cI, hz_R gt, .inl (nf bo))), (f, .inr (2, [.int (nI (aN a)), .ref a1, .ref a2, .ref a3, .ref a4, .ref a5, .ref a6])), (a1, .inl (cI, hz_L g, .inl (nf ow))), (a2, .inl (cL, hz_L g, .inr (.inl ky))), (a3, .inl (cB, hz_L g, .inl (nf kd))), (a4, .inl (cL, hz_L g, .inr (.inl nu))), (a5, .inl (cI, hz_L g, .inl (nf fo))), (a6, .inl (cI, hz_M g, .inl (nf sn)))] s.heap := hP
  have hown : s.vm.findClass R_F = some m.cls := hown
  have hw : ∀ x ∈ WALL, x.before _ s = true := fun x h => hts x (List.mem_cons_of_mem _ h)
  have hl : lv_has ls 2 [(0, .ref x0), (1, .int x)] := hl
  refine lv_aload_n hx hb d_F_fields_0 rfl (lv_at hl 0 rfl) ?_
  refine va_get (D := (dC, dI)) (ci := 0) (v := .ref tr) (C := R_F) (T := T_F) (N := 4) hx hb hw in_F hown hK hP 0 rfl rfl 0 (by decide) (hw _ m_83) (fun _ h9 => h9) rfl d_F_fields_1 ?_
  refine lv_iload_n hx hb d_F_fields_4 rfl (lv_at hl 1 rfl) ?_
  refine QryI.callV (ci := 1) (q0 := 0) (c_has l dC dI cI cL cB tr y1 y2 y3 y4 y5 nT x (by omega)) ⟨hx, hb, hml, hown, hw⟩ (fz_cwV 1 hw m_132 m_129 m_130 m_131 m_2 rfl rfl (by decide +kernel) ⟨Nat.le_of_ble_eq_true rfl, Nat.le_of_ble_eq_true rfl⟩) hK hP [1] rfl rfl rfl rfl rfl hl.1 rfl (Nat.le_of_ble_eq_true rfl) d_F_fields_5 ⟨(Nat.le_of_ble_eq_true rfl), (Nat.le_of_ble_eq_true rfl)⟩ (fun r5 h5 => ?_)
  obtain ⟨b5, hb5, e5, hok5⟩ := h5
  subst e5
  refine lv_if_eq (tgt := 23) hx hb d_F_fields_8 (by decide) (fun c8 => ?_) (fun c8 => ?_)
  · have c8 : b5 = 0 := (nI_eq (by omega) (by omega)).mp (c8.trans nI_0.symm)
    refine lv_iconst (v := -1) hx hb d_F_fields_23 (by decide) ?_
    exact hret (-1) 24 ls (by unfold fFields; rw [ifc_neg (fun h => absurd (hok5.mpr h) (by omega))]) d_F_fields_24
  · have c8 : ¬ b5 = 0 := fun h => c8 (((nI_eq (by omega) (by omega)).mpr h).trans nI_0)
    obtain ⟨t, ht1, ht2, ext⟩ := hok5.mp (by omega)
    rw [ext] at hl
    refine lv_aload_n hx hb d_F_fields_11 rfl (lv_at hl 0 rfl) ?_
    refine va_get (D := (dC, dI)) (ci := 0) (v := .ref tr) (C := R_F) (T := T_F) (N := 4) hx hb hw in_F hown hK hP 0 rfl rfl 0 (by decide) (hw _ m_83) (fun _ h9 => h9) rfl d_F_fields_12 ?_
    refine va_get (D := (dC, dI)) (ci := 1) (v := .ref y4) (C := R_T) (T := T_T) (N := 6) hx hb hw in_T hown hK hP 1 rfl rfl 4 (by decide) (hw _ m_31) (fun _ h9 => h9) rfl d_F_fields_15 ?_
    refine lv_iload_n hx hb d_F_fields_18 rfl (lv_at hl 1 rfl) ?_
    refine fz_iald hx hb hK hP 5 0 rfl rfl (j := t) (by omega) (by omega) d_F_fields_19 ?_
    refine lv_goto (tgt := 24) hx hb d_F_fields_20 (by decide) ?_
    exact hret (nI (vc t)) 24 ls (by unfold fFields; rw [ifc_pos (hok5.mp (by omega)), ext, tN_nI (by omega), (hCT.2 t ht1 ht2).2.2.2.1.symm]) d_F_fields_24
set_option maxHeartbeats 4000000 in
set_option maxRecDepth 100000 in
/-- cursorKind -/
theorem c_cursorKind (l : Launch) (dC : Nat → ClassId) (dI : Nat → Nat → Nat) (cI cL cB : ClassId) (x0 : Nat) (tr : Nat) (f : Nat) (y1 : Nat) (y2 : Nat) (y3 : Nat) (y4 : Nat) (y5 : Nat) (a1 : Nat) (a2 : Nat) (a3 : Nat) (a4 : Nat) (a5 : Nat) (a6 : Nat) (ck : Nat) (nT : Nat) (g : Nat) (gt : Nat) (cn : Int64) (a : AS) (fi : Nat → Nat) (la : Nat → Nat) (kc : Nat → Nat) (vc : Nat → Nat) (bo : Nat → Nat) (ow : Nat → Nat) (ky : Nat → Int64) (kd : Nat → Nat) (nu : Nat → Int64) (fo : Nat → Nat) (sn : Nat → Nat)  : QryI l y_F_cursorKind (wd y_F_cursorKind b_F_cursorKind 1 (some .int)) 0 0 (dC, dI) classes (tyK cI cL cB) [.ref x0] [(x0, .inr (0, [.ref tr, .ref f, .int (nI ck), .long cn])), (tr, .inr (1, [.int (nI nT), .ref y1, .ref y2, .ref y3, .ref y4, .ref y5])), (y1, .inl (cI, hz_R gt, .inl (nf fi))), (y2, .inl (cI, hz_R gt, .inl (nf la))), (y3, .inl (cI, hz_R gt, .inl (nf kc))), (y4, .inl (cI, hz_R gt, .inl (nf vc))), (y5, .inl (cI, hz_R gt, .inl (nf bo))), (f, .inr (2, [.int (nI (aN a)), .ref a1, .ref a2, .ref a3, .ref a4, .ref a5, .ref a6])), (a1, .inl (cI, hz_L g, .inl (nf ow))), (a2, .inl (cL, hz_L g, .inr (.inl ky))), (a3, .inl (cB, hz_L g, .inl (nf kd))), (a4, .inl (cL, hz_L g, .inr (.inl nu))), (a5, .inl (cI, hz_L g, .inl (nf fo))), (a6, .inl (cI, hz_M g, .inl (nf sn)))] (fun r : Int32 => r = nI ck) := by
  refine QryI.mk (cc := b_F_cursorKind) (maxL := 1) (by decide) rfl (Nat.le_of_ble_eq_true rfl) ?_
  intro p e s m below meth c Z ls hx hb hml hown hts hP hK hret hl
  have hP : va_P (dC, dI) classes [(x0, .inr (0, [.ref tr, .ref f, .int (nI ck), .long cn])), (tr, .inr (1, [.int (nI nT), .ref y1, .ref y2, .ref y3, .ref y4, .ref y5])), (y1, .inl (cI, hz_R gt, .inl (nf fi))), (y2, .inl (cI, hz_R gt, .inl (nf la))), (y3, .inl (cI, hz_R gt, .inl (nf kc))), (y4, .inl (cI, hz_R gt, .inl (nf vc))), (y5, .inl (cI, hz_R gt, .inl (nf bo))), (f, .inr (2, [.int (nI (aN a)), .ref a1, .ref a2, .ref a3, .ref a4, .ref a5, .ref a6])), (a1, .inl (cI, hz_L g, .inl (nf ow))), (a2, .inl (cL, hz_L g, .inr (.inl ky))), (a3, .inl (cB, hz_L g, .inl (nf kd))), (a4, .inl (cL, hz_L g, .inr (.inl nu))), (a5, .inl (cI, hz_L g, .inl (nf fo))), (a6, .inl (cI, hz_M g, .inl (nf sn)))] s.heap := hP
  have hown : s.vm.findClass R_F = some m.cls := hown
  have hw : ∀ x ∈ WALL, x.before _ s = true := fun x h => hts x (List.mem_cons_of_mem _ h)
  have hl : lv_has ls 1 [(0, .ref x0)] := hl
  refine lv_aload_n hx hb d_F_cursorKind_0 rfl (lv_at hl 0 rfl) ?_
  refine va_get (D := (dC, dI)) (ci := 0) (v := .int (nI ck)) (C := R_F) (T := T_F) (N := 4) hx hb hw in_F hown hK hP 0 rfl rfl 2 (by decide) (hw _ m_85) (fun _ h9 => h9) rfl d_F_cursorKind_1 ?_
  exact hret (nI ck) 4 ls rfl d_F_cursorKind_4
set_option maxHeartbeats 4000000 in
set_option maxRecDepth 100000 in
/-- cursorNumber -/
theorem c_cursorNumber (l : Launch) (dC : Nat → ClassId) (dI : Nat → Nat → Nat) (cI cL cB : ClassId) (x0 : Nat) (tr : Nat) (f : Nat) (y1 : Nat) (y2 : Nat) (y3 : Nat) (y4 : Nat) (y5 : Nat) (a1 : Nat) (a2 : Nat) (a3 : Nat) (a4 : Nat) (a5 : Nat) (a6 : Nat) (ck : Nat) (nT : Nat) (g : Nat) (gt : Nat) (cn : Int64) (a : AS) (fi : Nat → Nat) (la : Nat → Nat) (kc : Nat → Nat) (vc : Nat → Nat) (bo : Nat → Nat) (ow : Nat → Nat) (ky : Nat → Int64) (kd : Nat → Nat) (nu : Nat → Int64) (fo : Nat → Nat) (sn : Nat → Nat)  : QryL l y_F_cursorNumber (wd y_F_cursorNumber b_F_cursorNumber 1 (some .long)) 0 0 (dC, dI) classes (tyK cI cL cB) [.ref x0] [(x0, .inr (0, [.ref tr, .ref f, .int (nI ck), .long cn])), (tr, .inr (1, [.int (nI nT), .ref y1, .ref y2, .ref y3, .ref y4, .ref y5])), (y1, .inl (cI, hz_R gt, .inl (nf fi))), (y2, .inl (cI, hz_R gt, .inl (nf la))), (y3, .inl (cI, hz_R gt, .inl (nf kc))), (y4, .inl (cI, hz_R gt, .inl (nf vc))), (y5, .inl (cI, hz_R gt, .inl (nf bo))), (f, .inr (2, [.int (nI (aN a)), .ref a1, .ref a2, .ref a3, .ref a4, .ref a5, .ref a6])), (a1, .inl (cI, hz_L g, .inl (nf ow))), (a2, .inl (cL, hz_L g, .inr (.inl ky))), (a3, .inl (cB, hz_L g, .inl (nf kd))), (a4, .inl (cL, hz_L g, .inr (.inl nu))), (a5, .inl (cI, hz_L g, .inl (nf fo))), (a6, .inl (cI, hz_M g, .inl (nf sn)))] (fun r : Int64 => r = cn) := by
  refine QryL.mk (cc := b_F_cursorNumber) (maxL := 1) (by decide) rfl (Nat.le_of_ble_eq_true rfl) ?_
  intro p e s m below meth c Z ls hx hb hml hown hts hP hK hret hl
  have hP : va_P (dC, dI) classes [(x0, .inr (0, [.ref tr, .ref f, .int (nI ck), .long cn])), (tr, .inr (1, [.int (nI nT), .ref y1, .ref y2, .ref y3, .ref y4, .ref y5])), (y1, .inl (cI, hz_R gt, .inl (nf fi))), (y2, .inl (cI, hz_R gt, .inl (nf la))), (y3, .inl (cI, hz_R gt, .inl (nf kc))), (y4, .inl (cI, hz_R gt, .inl (nf vc))), (y5, .inl (cI, hz_R gt, .inl (nf bo))), (f, .inr (2, [.int (nI (aN a)), .ref a1, .ref a2, .ref a3, .ref a4, .ref a5, .ref a6])), (a1, .inl (cI, hz_L g, .inl (nf ow))), (a2, .inl (cL, hz_L g, .inr (.inl ky))), (a3, .inl (cB, hz_L g, .inl (nf kd))), (a4, .inl (cL, hz_L g, .inr (.inl nu))), (a5, .inl (cI, hz_L g, .inl (nf fo))), (a6, .inl (cI, hz_M g, .inl (nf sn)))] s.heap := hP
  have hown : s.vm.findClass R_F = some m.cls := hown
  have hw : ∀ x ∈ WALL, x.before _ s = true := fun x h => hts x (List.mem_cons_of_mem _ h)
  have hl : lv_has ls 1 [(0, .ref x0)] := hl
  refine lv_aload_n hx hb d_F_cursorNumber_0 rfl (lv_at hl 0 rfl) ?_
  refine va_get (D := (dC, dI)) (ci := 0) (v := .long cn) (C := R_F) (T := T_F) (N := 4) hx hb hw in_F hown hK hP 0 rfl rfl 3 (by decide) (hw _ m_86) (fun _ h9 => h9) rfl d_F_cursorNumber_1 ?_
  exact hret cn 4 ls rfl d_F_cursorNumber_4
set_option maxHeartbeats 4000000 in
set_option maxRecDepth 100000 in
/-- all -/
theorem c_all (l : Launch) (dC : Nat → ClassId) (dI : Nat → Nat → Nat) (cI cL cB : ClassId) (x0 : Nat) (tr : Nat) (f : Nat) (y1 : Nat) (y2 : Nat) (y3 : Nat) (y4 : Nat) (y5 : Nat) (a1 : Nat) (a2 : Nat) (a3 : Nat) (a4 : Nat) (a5 : Nat) (a6 : Nat) (ck : Nat) (nT : Nat) (g : Nat) (gt : Nat) (cn : Int64) (a : AS) (fi : Nat → Nat) (la : Nat → Nat) (kc : Nat → Nat) (vc : Nat → Nat) (bo : Nat → Nat) (ow : Nat → Nat) (ky : Nat → Int64) (kd : Nat → Nat) (nu : Nat → Int64) (fo : Nat → Nat) (sn : Nat → Nat)  : QryI l y_F_all (wd y_F_all b_F_all 1 (some .int)) 0 0 (dC, dI) classes (tyK cI cL cB) [.ref x0] [(x0, .inr (0, [.ref tr, .ref f, .int (nI ck), .long cn])), (tr, .inr (1, [.int (nI nT), .ref y1, .ref y2, .ref y3, .ref y4, .ref y5])), (y1, .inl (cI, hz_R gt, .inl (nf fi))), (y2, .inl (cI, hz_R gt, .inl (nf la))), (y3, .inl (cI, hz_R gt, .inl (nf kc))), (y4, .inl (cI, hz_R gt, .inl (nf vc))), (y5, .inl (cI, hz_R gt, .inl (nf bo))), (f, .inr (2, [.int (nI (aN a)), .ref a1, .ref a2, .ref a3, .ref a4, .ref a5, .ref a6])), (a1, .inl (cI, hz_L g, .inl (nf ow))), (a2, .inl (cL, hz_L g, .inr (.inl ky))), (a3, .inl (cB, hz_L g, .inl (nf kd))), (a4, .inl (cL, hz_L g, .inr (.inl nu))), (a5, .inl (cI, hz_L g, .inl (nf fo))), (a6, .inl (cI, hz_M g, .inl (nf sn)))] (fun r : Int32 => r = nI (aN a)) := by
  refine QryI.mk (cc := b_F_all) (maxL := 1) (by decide) rfl (Nat.le_of_ble_eq_true rfl) ?_
  intro p e s m below meth c Z ls hx hb hml hown hts hP hK hret hl
  have hP : va_P (dC, dI) classes [(x0, .inr (0, [.ref tr, .ref f, .int (nI ck), .long cn])), (tr, .inr (1, [.int (nI nT), .ref y1, .ref y2, .ref y3, .ref y4, .ref y5])), (y1, .inl (cI, hz_R gt, .inl (nf fi))), (y2, .inl (cI, hz_R gt, .inl (nf la))), (y3, .inl (cI, hz_R gt, .inl (nf kc))), (y4, .inl (cI, hz_R gt, .inl (nf vc))), (y5, .inl (cI, hz_R gt, .inl (nf bo))), (f, .inr (2, [.int (nI (aN a)), .ref a1, .ref a2, .ref a3, .ref a4, .ref a5, .ref a6])), (a1, .inl (cI, hz_L g, .inl (nf ow))), (a2, .inl (cL, hz_L g, .inr (.inl ky))), (a3, .inl (cB, hz_L g, .inl (nf kd))), (a4, .inl (cL, hz_L g, .inr (.inl nu))), (a5, .inl (cI, hz_L g, .inl (nf fo))), (a6, .inl (cI, hz_M g, .inl (nf sn)))] s.heap := hP
  have hown : s.vm.findClass R_F = some m.cls := hown
  have hw : ∀ x ∈ WALL, x.before _ s = true := fun x h => hts x (List.mem_cons_of_mem _ h)
  have hl : lv_has ls 1 [(0, .ref x0)] := hl
  refine lv_aload_n hx hb d_F_all_0 rfl (lv_at hl 0 rfl) ?_
  refine va_get (D := (dC, dI)) (ci := 0) (v := .ref f) (C := R_F) (T := T_F) (N := 4) hx hb hw in_F hown hK hP 0 rfl rfl 1 (by decide) (hw _ m_84) (fun _ h9 => h9) rfl d_F_all_1 ?_
  refine va_get (D := (dC, dI)) (ci := 2) (v := .int (nI (aN a))) (C := R_S) (T := T_S) (N := 7) hx hb hw in_S hown hK hP 7 rfl rfl 0 (by decide) (hw _ m_55) (fun _ h9 => h9) rfl d_F_all_4 ?_
  exact hret (nI (aN a)) 7 ls rfl d_F_all_7
set_option maxHeartbeats 4000000 in
set_option maxRecDepth 100000 in
/-- setCursor -/
theorem c_setCursor (l : Launch) (dC : Nat → ClassId) (dI : Nat → Nat → Nat) (cI cL cB : ClassId) (x0 : Nat) (tr : Nat) (f : Nat) (y1 : Nat) (y2 : Nat) (y3 : Nat) (y4 : Nat) (y5 : Nat) (a1 : Nat) (a2 : Nat) (a3 : Nat) (a4 : Nat) (a5 : Nat) (a6 : Nat) (ck : Nat) (nT : Nat) (g : Nat) (gt : Nat) (cn : Int64) (a : AS) (fi : Nat → Nat) (la : Nat → Nat) (kc : Nat → Nat) (vc : Nat → Nat) (bo : Nat → Nat) (ow : Nat → Nat) (ky : Nat → Int64) (kd : Nat → Nat) (nu : Nat → Int64) (fo : Nat → Nat) (sn : Nat → Nat) (i : Nat) (hCI : CI nT a g gt ow ky kd nu fo sn fi la kc vc bo) (hi : i ≤ aN a) : StdI l y_F_setCursor (wd y_F_setCursor b_F_setCursor 2 (some .int)) 1 21 0 0 (dC, dI) classes (tyK cI cL cB) [.ref x0, .int (nI i)] [(x0, .inr (0, [.ref tr, .ref f, .int (nI ck), .long cn])), (tr, .inr (1, [.int (nI nT), .ref y1, .ref y2, .ref y3, .ref y4, .ref y5])), (y1, .inl (cI, hz_R gt, .inl (nf fi))), (y2, .inl (cI, hz_R gt, .inl (nf la))), (y3, .inl (cI, hz_R gt, .inl (nf kc))), (y4, .inl (cI, hz_R gt, .inl (nf vc))), (y5, .inl (cI, hz_R gt, .inl (nf bo))), (f, .inr (2, [.int (nI (aN a)), .ref a1, .ref a2, .ref a3, .ref a4, .ref a5, .ref a6])), (a1, .inl (cI, hz_L g, .inl (nf ow))), (a2, .inl (cL, hz_L g, .inr (.inl ky))), (a3, .inl (cB, hz_L g, .inl (nf kd))), (a4, .inl (cL, hz_L g, .inr (.inl nu))), (a5, .inl (cI, hz_L g, .inl (nf fo))), (a6, .inl (cI, hz_M g, .inl (nf sn)))] (fun (r : Int32) (u : Nat × Int64) => (r, u.1, u.2) = fNextJ a i) (fun (u : Nat × Int64) => [(x0, .inr (0, [.ref tr, .ref f, .int (nI u.1), .long u.2])), (tr, .inr (1, [.int (nI nT), .ref y1, .ref y2, .ref y3, .ref y4, .ref y5])), (y1, .inl (cI, hz_R gt, .inl (nf fi))), (y2, .inl (cI, hz_R gt, .inl (nf la))), (y3, .inl (cI, hz_R gt, .inl (nf kc))), (y4, .inl (cI, hz_R gt, .inl (nf vc))), (y5, .inl (cI, hz_R gt, .inl (nf bo))), (f, .inr (2, [.int (nI (aN a)), .ref a1, .ref a2, .ref a3, .ref a4, .ref a5, .ref a6])), (a1, .inl (cI, hz_L g, .inl (nf ow))), (a2, .inl (cL, hz_L g, .inr (.inl ky))), (a3, .inl (cB, hz_L g, .inl (nf kd))), (a4, .inl (cL, hz_L g, .inr (.inl nu))), (a5, .inl (cI, hz_L g, .inl (nf fo))), (a6, .inl (cI, hz_M g, .inl (nf sn)))]) := by
  obtain ⟨hCS, hCT, hgt, hRT⟩ := id hCI
  have hAI := hCS.1
  have hnT := hCS.2.1
  have hg := hCS.2.2.1
  have hnL := hCS.2.2.2.1
  have hAg := hCS.2.2.2.2.1
  have hk8 := hCS.2.2.2.2.2.1
  have hT := hCS.2.2.2.2.2.2
  have hO := hCS.O
  have hU := hCS.U
  have hg1 := hz_gen g hg
  have hg2 := hz_Rgen gt hgt
  have hn4 := hAI.1
  refine StdI.mk (cc := b_F_setCursor) (maxL := 2) (by decide) rfl (Nat.le_of_ble_eq_true rfl) ?_
  intro p e s m below meth c A Z ls hx hb hml hown hts hin hP hK hD hA hS hret hl
  have hown : s.vm.findClass R_F = some m.cls := hown
  have hw : ∀ x ∈ WALL, x.before _ s = true := fun x h => hts x (List.mem_cons_of_mem _ h)
  have hl : lv_has ls 2 [(0, .ref x0), (1, .int (nI i))] := hl
  refine lv_iload_n hx hb d_F_setCursor_0 rfl (lv_at hl 1 rfl) ?_
  refine lv_if_ne (tgt := 16) hx hb d_F_setCursor_1 (by decide) (fun c1 => ?_) (fun c1 => ?_)
  · have c1 : ¬ i = 0 := fun h => c1 (((nI_eq (by omega) (by omega)).mpr h).trans nI_0)
    refine lv_aload_n hx hb d_F_setCursor_16 rfl (lv_at hl 0 rfl) ?_
    refine lv_aload_n hx hb d_F_setCursor_17 rfl (lv_at hl 0 rfl) ?_
    refine va_get (D := (dC, dI)) (ci := 0) (v := .ref f) (C := R_F) (T := T_F) (N := 4) hx hb hw in_F hown hK hP 0 rfl rfl 1 (by decide) (hw _ m_84) (fun _ h9 => h9) rfl d_F_setCursor_18 ?_
    refine lv_iload_n hx hb d_F_setCursor_21 rfl (lv_at hl 1 rfl) ?_
    refine QryI.callV (ci := 2) (q0 := 0) (c_keyKind l dC dI cI cL cB f a1 a2 a3 a4 a5 a6 (aN a) (hz_L g) i ow (by omega) (by omega) (hO i hi)) ⟨hx, hb, hml, hown, hw⟩ (fz_cwV 1 hw m_207 m_204 m_205 m_206 m_3 rfl rfl (by decide +kernel) ⟨Nat.le_of_ble_eq_true rfl, Nat.le_of_ble_eq_true rfl⟩) hK hP [7, 8] rfl rfl rfl rfl rfl hl.1 rfl (Nat.le_of_ble_eq_true rfl) d_F_setCursor_22 ⟨(Nat.le_of_ble_eq_true rfl), (Nat.le_of_ble_eq_true rfl)⟩ (fun r22 h22 => ?_)
    rw [(hAg i hi).1] at h22
    subst h22
    refine va_put (D := (dC, dI)) (ci := 0) (v := .int (nI (aO a i % 8))) (ty := .int) (C := R_F) (T := T_F) (N := 4) hx hb hw in_F ty_F tyok_F nn_F hown hK hP hD hS 0 rfl rfl 2 (by decide) (hw _ m_85) (fun _ h9 => h9) rfl (by decide +kernel) rfl rfl (Nat.le_of_ble_eq_true rfl) d_F_setCursor_25 (fun H locs hP hD hS => ?_)
    have hP : va_P (dC, dI) classes [(x0, .inr (0, [.ref tr, .ref f, .int (nI (aO a i % 8)), .long cn])), (tr, .inr (1, [.int (nI nT), .ref y1, .ref y2, .ref y3, .ref y4, .ref y5])), (y1, .inl (cI, hz_R gt, .inl (nf fi))), (y2, .inl (cI, hz_R gt, .inl (nf la))), (y3, .inl (cI, hz_R gt, .inl (nf kc))), (y4, .inl (cI, hz_R gt, .inl (nf vc))), (y5, .inl (cI, hz_R gt, .inl (nf bo))), (f, .inr (2, [.int (nI (aN a)), .ref a1, .ref a2, .ref a3, .ref a4, .ref a5, .ref a6])), (a1, .inl (cI, hz_L g, .inl (nf ow))), (a2, .inl (cL, hz_L g, .inr (.inl ky))), (a3, .inl (cB, hz_L g, .inl (nf kd))), (a4, .inl (cL, hz_L g, .inr (.inl nu))), (a5, .inl (cI, hz_L g, .inl (nf fo))), (a6, .inl (cI, hz_M g, .inl (nf sn)))] H := hP
    have hD : va_D A [(x0, .inr (0, [.ref tr, .ref f, .int (nI (aO a i % 8)), .long cn])), (tr, .inr (1, [.int (nI nT), .ref y1, .ref y2, .ref y3, .ref y4, .ref y5])), (y1, .inl (cI, hz_R gt, .inl (nf fi))), (y2, .inl (cI, hz_R gt, .inl (nf la))), (y3, .inl (cI, hz_R gt, .inl (nf kc))), (y4, .inl (cI, hz_R gt, .inl (nf vc))), (y5, .inl (cI, hz_R gt, .inl (nf bo))), (f, .inr (2, [.int (nI (aN a)), .ref a1, .ref a2, .ref a3, .ref a4, .ref a5, .ref a6])), (a1, .inl (cI, hz_L g, .inl (nf ow))), (a2, .inl (cL, hz_L g, .inr (.inl ky))), (a3, .inl (cB, hz_L g, .inl (nf kd))), (a4, .inl (cL, hz_L g, .inr (.inl nu))), (a5, .inl (cI, hz_L g, .inl (nf fo))), (a6, .inl (cI, hz_M g, .inl (nf sn)))] := hD
    refine lv_aload_n hx hb d_F_setCursor_28 rfl (lv_at hl 0 rfl) ?_
    refine lv_aload_n hx hb d_F_setCursor_29 rfl (lv_at hl 0 rfl) ?_
    refine va_get (D := (dC, dI)) (ci := 0) (v := .ref f) (C := R_F) (T := T_F) (N := 4) hx hb hw in_F hown hK hP 0 rfl rfl 1 (by decide) (hw _ m_84) (fun _ h9 => h9) rfl d_F_setCursor_30 ?_
    refine va_get (D := (dC, dI)) (ci := 2) (v := .ref a2) (C := R_S) (T := T_S) (N := 7) hx hb hw in_S hown hK hP 7 rfl rfl 2 (by decide) (hw _ m_58) (fun _ h9 => h9) rfl d_F_setCursor_33 ?_
    refine lv_iload_n hx hb d_F_setCursor_36 rfl (lv_at hl 1 rfl) ?_
    refine fz_lald hx hb hK hP 9 1 rfl rfl (j := i) (by omega) (by omega) d_F_setCursor_37 ?_
    refine fz_eql (y := aK a i) ((hAg i hi).2.1) ?_
    refine va_put (D := (dC, dI)) (ci := 0) (v := .long (aK a i)) (ty := .long) (C := R_F) (T := T_F) (N := 4) hx hb hw in_F ty_F tyok_F nn_F hown hK hP hD hS 0 rfl rfl 3 (by decide) (hw _ m_86) (fun _ h9 => h9) rfl (by decide +kernel) rfl rfl (Nat.le_of_ble_eq_true rfl) d_F_setCursor_38 (fun H locs hP hD hS => ?_)
    have hP : va_P (dC, dI) classes [(x0, .inr (0, [.ref tr, .ref f, .int (nI (aO a i % 8)), .long (aK a i)])), (tr, .inr (1, [.int (nI nT), .ref y1, .ref y2, .ref y3, .ref y4, .ref y5])), (y1, .inl (cI, hz_R gt, .inl (nf fi))), (y2, .inl (cI, hz_R gt, .inl (nf la))), (y3, .inl (cI, hz_R gt, .inl (nf kc))), (y4, .inl (cI, hz_R gt, .inl (nf vc))), (y5, .inl (cI, hz_R gt, .inl (nf bo))), (f, .inr (2, [.int (nI (aN a)), .ref a1, .ref a2, .ref a3, .ref a4, .ref a5, .ref a6])), (a1, .inl (cI, hz_L g, .inl (nf ow))), (a2, .inl (cL, hz_L g, .inr (.inl ky))), (a3, .inl (cB, hz_L g, .inl (nf kd))), (a4, .inl (cL, hz_L g, .inr (.inl nu))), (a5, .inl (cI, hz_L g, .inl (nf fo))), (a6, .inl (cI, hz_M g, .inl (nf sn)))] H := hP
    have hD : va_D A [(x0, .inr (0, [.ref tr, .ref f, .int (nI (aO a i % 8)), .long (aK a i)])), (tr, .inr (1, [.int (nI nT), .ref y1, .ref y2, .ref y3, .ref y4, .ref y5])), (y1, .inl (cI, hz_R gt, .inl (nf fi))), (y2, .inl (cI, hz_R gt, .inl (nf la))), (y3, .inl (cI, hz_R gt, .inl (nf kc))), (y4, .inl (cI, hz_R gt, .inl (nf vc))), (y5, .inl (cI, hz_R gt, .inl (nf bo))), (f, .inr (2, [.int (nI (aN a)), .ref a1, .ref a2, .ref a3, .ref a4, .ref a5, .ref a6])), (a1, .inl (cI, hz_L g, .inl (nf ow))), (a2, .inl (cL, hz_L g, .inr (.inl ky))), (a3, .inl (cB, hz_L g, .inl (nf kd))), (a4, .inl (cL, hz_L g, .inr (.inl nu))), (a5, .inl (cI, hz_L g, .inl (nf fo))), (a6, .inl (cI, hz_M g, .inl (nf sn)))] := hD
    refine lv_iconst (v := nI 1) hx hb d_F_setCursor_41 (by decide) ?_
    have hpost : ((nI 1), (aO a i % 8), (aK a i)) = fNextJ a i := (by unfold fNextJ; rw [if_neg c1])
    exact hret (nI 1) (aO a i % 8, aK a i) _ _ 42 ls hpost hP hD hS d_F_setCursor_42
  · have c1 : i = 0 := (nI_eq (by omega) (by omega)).mp (c1.trans nI_0.symm)
    refine lv_aload_n hx hb d_F_setCursor_4 rfl (lv_at hl 0 rfl) ?_
    refine lv_iconst (v := nI 0) hx hb d_F_setCursor_5 (by decide) ?_
    refine va_put (D := (dC, dI)) (ci := 0) (v := .int (nI 0)) (ty := .int) (C := R_F) (T := T_F) (N := 4) hx hb hw in_F ty_F tyok_F nn_F hown hK hP hD hS 0 rfl rfl 2 (by decide) (hw _ m_85) (fun _ h9 => h9) rfl (by decide +kernel) rfl rfl (Nat.le_of_ble_eq_true rfl) d_F_setCursor_6 (fun H locs hP hD hS => ?_)
    have hP : va_P (dC, dI) classes [(x0, .inr (0, [.ref tr, .ref f, .int (nI 0), .long cn])), (tr, .inr (1, [.int (nI nT), .ref y1, .ref y2, .ref y3, .ref y4, .ref y5])), (y1, .inl (cI, hz_R gt, .inl (nf fi))), (y2, .inl (cI, hz_R gt, .inl (nf la))), (y3, .inl (cI, hz_R gt, .inl (nf kc))), (y4, .inl (cI, hz_R gt, .inl (nf vc))), (y5, .inl (cI, hz_R gt, .inl (nf bo))), (f, .inr (2, [.int (nI (aN a)), .ref a1, .ref a2, .ref a3, .ref a4, .ref a5, .ref a6])), (a1, .inl (cI, hz_L g, .inl (nf ow))), (a2, .inl (cL, hz_L g, .inr (.inl ky))), (a3, .inl (cB, hz_L g, .inl (nf kd))), (a4, .inl (cL, hz_L g, .inr (.inl nu))), (a5, .inl (cI, hz_L g, .inl (nf fo))), (a6, .inl (cI, hz_M g, .inl (nf sn)))] H := hP
    have hD : va_D A [(x0, .inr (0, [.ref tr, .ref f, .int (nI 0), .long cn])), (tr, .inr (1, [.int (nI nT), .ref y1, .ref y2, .ref y3, .ref y4, .ref y5])), (y1, .inl (cI, hz_R gt, .inl (nf fi))), (y2, .inl (cI, hz_R gt, .inl (nf la))), (y3, .inl (cI, hz_R gt, .inl (nf kc))), (y4, .inl (cI, hz_R gt, .inl (nf vc))), (y5, .inl (cI, hz_R gt, .inl (nf bo))), (f, .inr (2, [.int (nI (aN a)), .ref a1, .ref a2, .ref a3, .ref a4, .ref a5, .ref a6])), (a1, .inl (cI, hz_L g, .inl (nf ow))), (a2, .inl (cL, hz_L g, .inr (.inl ky))), (a3, .inl (cB, hz_L g, .inl (nf kd))), (a4, .inl (cL, hz_L g, .inr (.inl nu))), (a5, .inl (cI, hz_L g, .inl (nf fo))), (a6, .inl (cI, hz_M g, .inl (nf sn)))] := hD
    refine lv_aload_n hx hb d_F_setCursor_9 rfl (lv_at hl 0 rfl) ?_
    refine lv_lconst (v := lN 0) hx hb d_F_setCursor_10 rfl ?_
    refine va_put (D := (dC, dI)) (ci := 0) (v := .long (lN 0)) (ty := .long) (C := R_F) (T := T_F) (N := 4) hx hb hw in_F ty_F tyok_F nn_F hown hK hP hD hS 0 rfl rfl 3 (by decide) (hw _ m_86) (fun _ h9 => h9) rfl (by decide +kernel) rfl rfl (Nat.le_of_ble_eq_true rfl) d_F_setCursor_11 (fun H locs hP hD hS => ?_)
    have hP : va_P (dC, dI) classes [(x0, .inr (0, [.ref tr, .ref f, .int (nI 0), .long (lN 0)])), (tr, .inr (1, [.int (nI nT), .ref y1, .ref y2, .ref y3, .ref y4, .ref y5])), (y1, .inl (cI, hz_R gt, .inl (nf fi))), (y2, .inl (cI, hz_R gt, .inl (nf la))), (y3, .inl (cI, hz_R gt, .inl (nf kc))), (y4, .inl (cI, hz_R gt, .inl (nf vc))), (y5, .inl (cI, hz_R gt, .inl (nf bo))), (f, .inr (2, [.int (nI (aN a)), .ref a1, .ref a2, .ref a3, .ref a4, .ref a5, .ref a6])), (a1, .inl (cI, hz_L g, .inl (nf ow))), (a2, .inl (cL, hz_L g, .inr (.inl ky))), (a3, .inl (cB, hz_L g, .inl (nf kd))), (a4, .inl (cL, hz_L g, .inr (.inl nu))), (a5, .inl (cI, hz_L g, .inl (nf fo))), (a6, .inl (cI, hz_M g, .inl (nf sn)))] H := hP
    have hD : va_D A [(x0, .inr (0, [.ref tr, .ref f, .int (nI 0), .long (lN 0)])), (tr, .inr (1, [.int (nI nT), .ref y1, .ref y2, .ref y3, .ref y4, .ref y5])), (y1, .inl (cI, hz_R gt, .inl (nf fi))), (y2, .inl (cI, hz_R gt, .inl (nf la))), (y3, .inl (cI, hz_R gt, .inl (nf kc))), (y4, .inl (cI, hz_R gt, .inl (nf vc))), (y5, .inl (cI, hz_R gt, .inl (nf bo))), (f, .inr (2, [.int (nI (aN a)), .ref a1, .ref a2, .ref a3, .ref a4, .ref a5, .ref a6])), (a1, .inl (cI, hz_L g, .inl (nf ow))), (a2, .inl (cL, hz_L g, .inr (.inl ky))), (a3, .inl (cB, hz_L g, .inl (nf kd))), (a4, .inl (cL, hz_L g, .inr (.inl nu))), (a5, .inl (cI, hz_L g, .inl (nf fo))), (a6, .inl (cI, hz_M g, .inl (nf sn)))] := hD
    refine lv_iconst (v := nI 0) hx hb d_F_setCursor_14 (by decide) ?_
    have hpost : ((nI 0), 0, (lN 0)) = fNextJ a i := (by unfold fNextJ; rw [if_pos c1]; rfl)
    exact hret (nI 0) (0, lN 0) _ _ 15 ls hpost hP hD hS d_F_setCursor_15
set_option maxHeartbeats 4000000 in
set_option maxRecDepth 100000 in
/-- firstWithValue -/
theorem c_firstWithValue (l : Launch) (dC : Nat → ClassId) (dI : Nat → Nat → Nat) (cI cL cB : ClassId) (x0 : Nat) (tr : Nat) (f : Nat) (y1 : Nat) (y2 : Nat) (y3 : Nat) (y4 : Nat) (y5 : Nat) (a1 : Nat) (a2 : Nat) (a3 : Nat) (a4 : Nat) (a5 : Nat) (a6 : Nat) (ck : Nat) (nT : Nat) (g : Nat) (gt : Nat) (cn : Int64) (a : AS) (fi : Nat → Nat) (la : Nat → Nat) (kc : Nat → Nat) (vc : Nat → Nat) (bo : Nat → Nat) (ow : Nat → Nat) (ky : Nat → Int64) (kd : Nat → Nat) (nu : Nat → Int64) (fo : Nat → Nat) (sn : Nat → Nat) (t : Nat) (q0 : Nat) (i : Nat) (hCI : CI nT a g gt ow ky kd nu fo sn fi la kc vc bo) (ht1 : 1 ≤ t) (ht2 : t ≤ nT) (hq0 : q0 ≤ aN a) (hch : ch_N (aO a) t (aN a) q0 i) : QryI l y_F_firstWithValue (wd y_F_firstWithValue b_F_firstWithValue 6 (some .int)) 0 0 (dC, dI) classes (tyK cI cL cB) [.ref x0, .int (nI t), .int (nI i)] [(x0, .inr (0, [.ref tr, .ref f, .int (nI ck), .long cn])), (tr, .inr (1, [.int (nI nT), .ref y1, .ref y2, .ref y3, .ref y4, .ref y5])), (y1, .inl (cI, hz_R gt, .inl (nf fi))), (y2, .inl (cI, hz_R gt, .inl (nf la))), (y3, .inl (cI, hz_R gt, .inl (nf kc))), (y4, .inl (cI, hz_R gt, .inl (nf vc))), (y5, .inl (cI, hz_R gt, .inl (nf bo))), (f, .inr (2, [.int (nI (aN a)), .ref a1, .ref a2, .ref a3, .ref a4, .ref a5, .ref a6])), (a1, .inl (cI, hz_L g, .inl (nf ow))), (a2, .inl (cL, hz_L g, .inr (.inl ky))), (a3, .inl (cB, hz_L g, .inl (nf kd))), (a4, .inl (cL, hz_L g, .inr (.inl nu))), (a5, .inl (cI, hz_L g, .inl (nf fo))), (a6, .inl (cI, hz_M g, .inl (nf sn)))] (fun r : Int32 => r = nI (nv a t q0)) := by
  obtain ⟨hCS, hCT, hgt, hRT⟩ := id hCI
  have hAI := hCS.1
  have hnT := hCS.2.1
  have hg := hCS.2.2.1
  have hnL := hCS.2.2.2.1
  have hAg := hCS.2.2.2.2.1
  have hk8 := hCS.2.2.2.2.2.1
  have hT := hCS.2.2.2.2.2.2
  have hO := hCS.O
  have hU := hCS.U
  have hg1 := hz_gen g hg
  have hg2 := hz_Rgen gt hgt
  have hn4 := hAI.1
  refine QryI.mk (cc := b_F_firstWithValue) (maxL := 6) (by decide) rfl (Nat.le_of_ble_eq_true rfl) ?_
  intro p e s m below meth c Z ls hx hb hml hown hts hP hK hret hl
  have hP : va_P (dC, dI) classes [(x0, .inr (0, [.ref tr, .ref f, .int (nI ck), .long cn])), (tr, .inr (1, [.int (nI nT), .ref y1, .ref y2, .ref y3, .ref y4, .ref y5])), (y1, .inl (cI, hz_R gt, .inl (nf fi))), (y2, .inl (cI, hz_R gt, .inl (nf la))), (y3, .inl (cI, hz_R gt, .inl (nf kc))), (y4, .inl (cI, hz_R gt, .inl (nf vc))), (y5, .inl (cI, hz_R gt, .inl (nf bo))), (f, .inr (2, [.int (nI (aN a)), .ref a1, .ref a2, .ref a3, .ref a4, .ref a5, .ref a6])), (a1, .inl (cI, hz_L g, .inl (nf ow))), (a2, .inl (cL, hz_L g, .inr (.inl ky))), (a3, .inl (cB, hz_L g, .inl (nf kd))), (a4, .inl (cL, hz_L g, .inr (.inl nu))), (a5, .inl (cI, hz_L g, .inl (nf fo))), (a6, .inl (cI, hz_M g, .inl (nf sn)))] s.heap := hP
  have hown : s.vm.findClass R_F = some m.cls := hown
  have hw : ∀ x ∈ WALL, x.before _ s = true := fun x h => hts x (List.mem_cons_of_mem _ h)
  have hl : lv_has ls 6 [(0, .ref x0), (1, .int (nI t)), (2, .int (nI i))] := hl
  refine lv_iload_n hx hb d_F_firstWithValue_0 rfl (lv_at hl 2 rfl) ?_
  refine lv_istore_n (lv' := [(3, .int (nI i)), (0, .ref x0), (1, .int (nI t)), (2, .int (nI i))]) hx hb d_F_firstWithValue_1 rfl hl (by decide) rfl (fun ls hl => ?_)
  refine lv_aload_n hx hb d_F_firstWithValue_2 rfl (lv_at hl 1 rfl) ?_
  refine va_get (D := (dC, dI)) (ci := 0) (v := .ref tr) (C := R_F) (T := T_F) (N := 4) hx hb hw in_F hown hK hP 0 rfl rfl 0 (by decide) (hw _ m_83) (fun _ h9 => h9) rfl d_F_firstWithValue_3 ?_
  refine va_get (D := (dC, dI)) (ci := 1) (v := .ref y3) (C := R_T) (T := T_T) (N := 6) hx hb hw in_T hown hK hP 1 rfl rfl 3 (by decide) (hw _ m_29) (fun _ h9 => h9) rfl d_F_firstWithValue_6 ?_
  refine lv_iload_n hx hb d_F_firstWithValue_9 rfl (lv_at hl 2 rfl) ?_
  refine fz_iald hx hb hK hP 4 0 rfl rfl (j := t) (by omega) (by omega) d_F_firstWithValue_10 ?_
  refine lv_istore (lv' := [(4, .int (nI (kc t))), (3, .int (nI i)), (0, .ref x0), (1, .int (nI t)), (2, .int (nI i))]) hx hb d_F_firstWithValue_11 hl (by decide) rfl (fun ls hl => ?_)
  refine lv_iconst (v := nI 0) hx hb d_F_firstWithValue_13 (by decide) ?_
  refine lv_istore (lv' := [(5, .int (nI 0)), (4, .int (nI (kc t))), (3, .int (nI i)), (0, .ref x0), (1, .int (nI t)), (2, .int (nI i))]) hx hb d_F_firstWithValue_14 hl (by decide) rfl (fun ls hl => ?_)
  have loop_16 : ∀ (fuel : Nat) (fld : Nat) (sen : Nat) (q : Nat), ch_N (aO a) t (aN a) q fld → q ≤ aN a → q0 ≤ q → noV a t q0 q → sen ≤ cQ a t q → aN a - q < fuel → ∀ (ls : Array Slot), lv_has ls 6 [(0, .ref x0), (1, .int (nI t)), (3, .int (nI fld)), (4, .int (nI (kc t))), (5, .int (nI sen))] → W p l e { frames := 0, cells := 0, slots := 0, locals := 0 } s m [.ref x0, .int (nI t), .int (nI i)].toArray below meth c s.heap [] 0 0 Z (F0 m 16 ls []) := by
    intro fuel
    induction fuel with
    | zero => intro fld sen q hfl hqn hqq hq hse hfuel; exact absurd hfuel (Nat.not_lt_zero _)
    | succ fuel ih =>
      intro fld sen q hfl hqn hqq hq hse hfuel ls hl
      have hfn := hfl.le
      have hkc := (hCT.2 t ht1 ht2).2.2.1
      have hkn : kc t ≤ aN a := by rw [hkc]; exact cnt_le _ _
      have hcq := cQ_le (t := t) hqn
      refine lv_iload hx hb d_F_firstWithValue_16 (lv_at hl 4 rfl) ?_
      refine lv_iload hx hb d_F_firstWithValue_18 (lv_at hl 3 rfl) ?_
      refine lv_icmp_ge (tgt := 57) hx hb d_F_firstWithValue_20 (by decide) (fun c20 => ?_) (fun c20 => ?_)
      · have c20 : kc t ≤ sen := by exact (nI_leI (by omega) (by omega)).mp c20
        refine lv_iconst (v := nI 0) hx hb d_F_firstWithValue_57 (by decide) ?_
        have hf0 : fld = 0 := by
          by_cases z : fld = 0
          · exact z
          · have := cQ_next hfl z; omega
        exact hret (nI 0) 58 ls (by rw [hq.end0 hfl hf0]) d_F_firstWithValue_58
      · have c20 : ¬ kc t ≤ sen := fun h => c20 (by exact (nI_leI (by omega) (by omega)).mpr h)
        refine lv_iload_n hx hb d_F_firstWithValue_23 rfl (lv_at hl 2 rfl) ?_
        refine lv_if_eq (tgt := 57) hx hb d_F_firstWithValue_24 (by decide) (fun c24 => ?_) (fun c24 => ?_)
        · have c24 : fld = 0 := (nI_eq (by omega) (by omega)).mp (c24.trans nI_0.symm)
          refine lv_iconst (v := nI 0) hx hb d_F_firstWithValue_57 (by decide) ?_
          exact hret (nI 0) 58 ls (by rw [hq.end0 hfl c24]) d_F_firstWithValue_58
        · have c24 : ¬ fld = 0 := fun h => c24 (((nI_eq (by omega) (by omega)).mpr h).trans nI_0)
          have hff := hfl.facts c24
          have hcn := cQ_next hfl c24
          refine lv_aload_n hx hb d_F_firstWithValue_27 rfl (lv_at hl 0 rfl) ?_
          refine va_get (D := (dC, dI)) (ci := 0) (v := .ref f) (C := R_F) (T := T_F) (N := 4) hx hb hw in_F hown hK hP 0 rfl rfl 1 (by decide) (hw _ m_84) (fun _ h9 => h9) rfl d_F_firstWithValue_28 ?_
          refine va_get (D := (dC, dI)) (ci := 2) (v := .ref a3) (C := R_S) (T := T_S) (N := 7) hx hb hw in_S hown hK hP 7 rfl rfl 3 (by decide) (hw _ m_60) (fun _ h9 => h9) rfl d_F_firstWithValue_31 ?_
          refine lv_iload_n hx hb d_F_firstWithValue_34 rfl (lv_at hl 2 rfl) ?_
          refine fz_bald hx hb hK hP 10 2 rfl rfl (j := fld) (by omega) (by omega) d_F_firstWithValue_35 ?_
          have hkf := hk8 fld
          refine lv_if_eq (tgt := 41) hx hb d_F_firstWithValue_36 (by decide) (fun c36 => ?_) (fun c36 => ?_)
          · have c36 : kd fld = 0 := (nI_eq (by omega) (by omega)).mp (c36.trans nI_0.symm)
            refine lv_aload_n hx hb d_F_firstWithValue_41 rfl (lv_at hl 0 rfl) ?_
            refine va_get (D := (dC, dI)) (ci := 0) (v := .ref f) (C := R_F) (T := T_F) (N := 4) hx hb hw in_F hown hK hP 0 rfl rfl 1 (by decide) (hw _ m_84) (fun _ h9 => h9) rfl d_F_firstWithValue_42 ?_
            refine va_get (D := (dC, dI)) (ci := 2) (v := .ref a5) (C := R_S) (T := T_S) (N := 7) hx hb hw in_S hown hK hP 7 rfl rfl 5 (by decide) (hw _ m_64) (fun _ h9 => h9) rfl d_F_firstWithValue_45 ?_
            refine lv_iload_n hx hb d_F_firstWithValue_48 rfl (lv_at hl 2 rfl) ?_
            refine fz_iald hx hb hK hP 12 0 rfl rfl (j := fld) (by omega) (by omega) d_F_firstWithValue_49 ?_
            refine lv_istore_n (lv' := [(3, .int (nI (fo fld))), (0, .ref x0), (1, .int (nI t)), (4, .int (nI (kc t))), (5, .int (nI sen))]) hx hb d_F_firstWithValue_50 rfl hl (by decide) rfl (fun ls hl => ?_)
            refine lv_iinc (v := nI (sen + 1)) (lv' := [(5, .int (nI (sen + 1))), (3, .int (nI (fo fld))), (0, .ref x0), (1, .int (nI t)), (4, .int (nI (kc t)))]) hx hb d_F_firstWithValue_51 hl (k := 4) rfl (fz_inc sen) (by decide) rfl (fun ls hl => ?_)
            refine lv_goto (tgt := 16) hx hb d_F_firstWithValue_54 (by decide) ?_
            exact ih (fo fld) (sen + 1) fld (by have := hCT.1 fld (Nat.pos_of_ne_zero c24) hfn; rw [hff.2.2] at this; exact this) hfn (by omega) (hq.next hfl c24 (by rw [← (hAg fld hfn).2.2.1]; exact c36)) (by omega) (by omega) ls (lv_sub hl [2, 3, 1, 4, 0] rfl)
          · have c36 : ¬ kd fld = 0 := fun h => c36 (((nI_eq (by omega) (by omega)).mpr h).trans nI_0)
            refine lv_iload_n hx hb d_F_firstWithValue_39 rfl (lv_at hl 2 rfl) ?_
            exact hret (nI fld) 40 ls (by rw [hq.endj hqq hfl c24 (by rw [← (hAg fld hfn).2.2.1]; exact c36)]) d_F_firstWithValue_40
  exact loop_16 (aN a - q0 + 1) i 0 q0 hch hq0 (Nat.le_refl _) noV.refl (Nat.zero_le _) (Nat.lt_succ_self _) ls (lv_sub hl [3, 4, 2, 1, 0] rfl)
