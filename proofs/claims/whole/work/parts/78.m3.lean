set_option maxHeartbeats 4000000 in
set_option maxRecDepth 100000 in
/-- kindAt -/
theorem m_kindAt (l : Launch) (dC : Nat → ClassId) (dI : Nat → Nat → Nat) (cI cL cB : ClassId) (mo : Nat) (m1 : Nat) (m2 : Nat) (m3 : Nat) (m4 : Nat) (m5 : Nat) (m6 : Nat) (m7 : Nat) (m8 : Nat) (m9 : Nat) (m10 : Nat) (m11 : Nat) (ck : Nat) (nT : Nat) (gm : Nat) (gt : Nat) (cn : Int64) (a : AS) (kk : Nat → Nat) (ky : Nat → Int64) (kd : Nat → Nat) (nu : Nat → Int64) (tb : Nat → Nat) (nx : Nat → Nat) (ot : Nat → Nat) (ch : Nat → Nat) (fi : Nat → Nat) (la : Nat → Nat) (sz : Nat → Nat) (x : Int32) (kx : Int32) (k : Int64) (hMI : MI nT a gm gt kk ky kd nu tb nx ot ch fi la sz) : QryI l y_M_kindAt (wd y_M_kindAt b_M_kindAt 6 (some .int)) 2 50 (dC, dI) classes (tyK cI cL cB) [.ref mo, .int x, .int kx, .long k] [(mo, .inr (3, [.ref m1, .ref m2, .ref m3, .ref m4, .ref m5, .ref m6, .ref m7, .int (nI (aN a)), .ref m8, .ref m9, .ref m10, .ref m11, .int (nI nT), .int (nI ck), .long cn])), (m1, .inl (cB, md_L gm, .inl (nf kk))), (m2, .inl (cL, md_L gm, .inr (.inl ky))), (m3, .inl (cB, md_L gm, .inl (nf kd))), (m4, .inl (cL, md_L gm, .inr (.inl nu))), (m5, .inl (cI, md_L gm, .inl (nf tb))), (m6, .inl (cI, md_L gm, .inl (nf nx))), (m7, .inl (cI, md_L gm, .inl (nf ot))), (m8, .inl (cI, 8191, .inl (nf ch))), (m9, .inl (cI, md_R gt, .inl (nf fi))), (m10, .inl (cI, md_R gt, .inl (nf la))), (m11, .inl (cI, md_R gt, .inl (nf sz)))] (fun r : Int32 => r = fKindAt nT a x kx k) := by
  obtain ⟨hMS, hMT, hgt, hRT⟩ := id hMI
  have hAI := hMS.1
  have hnT := hMS.2.1
  have hgm := hMS.2.2.1
  have hnL := hMS.2.2.2.1
  have hAg := hMS.2.2.2.2.1
  have hk8 := hMS.2.2.2.2.2.1
  have hd7 := hMS.2.2.2.2.2.2.1
  have hdz := hMS.2.2.2.2.2.2.2.1
  have hch := hMS.2.2.2.2.2.2.2.2.1
  have hot := hMS.2.2.2.2.2.2.2.2.2
  have hg1 := md_gen gm hgm
  have hg2 := md_gen gt hgt
  have hn4 := hAI.1
  refine QryI.mk (cc := b_M_kindAt) (maxL := 6) (by decide) rfl (Nat.le_of_ble_eq_true rfl) ?_
  intro p e s m below meth c Z ls hx hb hml hown hts hP hK hret hl
  have hP : va_P (dC, dI) classes [(mo, .inr (3, [.ref m1, .ref m2, .ref m3, .ref m4, .ref m5, .ref m6, .ref m7, .int (nI (aN a)), .ref m8, .ref m9, .ref m10, .ref m11, .int (nI nT), .int (nI ck), .long cn])), (m1, .inl (cB, md_L gm, .inl (nf kk))), (m2, .inl (cL, md_L gm, .inr (.inl ky))), (m3, .inl (cB, md_L gm, .inl (nf kd))), (m4, .inl (cL, md_L gm, .inr (.inl nu))), (m5, .inl (cI, md_L gm, .inl (nf tb))), (m6, .inl (cI, md_L gm, .inl (nf nx))), (m7, .inl (cI, md_L gm, .inl (nf ot))), (m8, .inl (cI, 8191, .inl (nf ch))), (m9, .inl (cI, md_R gt, .inl (nf fi))), (m10, .inl (cI, md_R gt, .inl (nf la))), (m11, .inl (cI, md_R gt, .inl (nf sz)))] s.heap := hP
  have hown : s.vm.findClass R_M = some m.cls := hown
  have hw : ∀ x ∈ WALL, x.before _ s = true := fun x h => hts x (List.mem_cons_of_mem _ h)
  have hl : lv_has ls 6 [(0, .ref mo), (1, .int x), (2, .int kx), (3, .long k)] := hl
  refine lv_aload_n hx hb d_M_kindAt_0 rfl (lv_at hl 0 rfl) ?_
  refine lv_iload_n hx hb d_M_kindAt_1 rfl (lv_at hl 1 rfl) ?_
  refine QryI.callV (ci := 3) (q0 := 0) (m_isTable l dC dI cI cL cB mo m1 m2 m3 m4 m5 m6 m7 m8 m9 m10 m11 ck nT (aN a) cn x (by omega)) ⟨hx, hb, hml, hown, hw⟩ (fz_cwV 1 hw m_422 m_419 m_421 ms_19 m_4 rfl rfl (by decide +kernel) ⟨Nat.le_of_ble_eq_true rfl, Nat.le_of_ble_eq_true rfl⟩) hK hP [0] rfl rfl rfl rfl rfl hl.1 rfl (Nat.le_of_ble_eq_true rfl) d_M_kindAt_2 ⟨(Nat.le_of_ble_eq_true rfl), (Nat.le_of_ble_eq_true rfl)⟩ (fun r2 h2 => ?_)
  obtain ⟨b2, hb2, e2, hok2⟩ := h2
  subst e2
  refine lv_if_eq (tgt := 19) hx hb d_M_kindAt_5 (by decide) (fun c5 => ?_) (fun c5 => ?_)
  · have c5 : b2 = 0 := (nI_eq (by omega) (by omega)).mp (c5.trans nI_0.symm)
    refine lv_iconst (v := -1) hx hb d_M_kindAt_19 (by decide) ?_
    exact hret (-1) 20 ls (by unfold fKindAt; rw [ifc_neg (fun h => absurd (hok2.mpr h.1) (by omega))]) d_M_kindAt_20
  · have c5 : ¬ b2 = 0 := fun h => c5 (((nI_eq (by omega) (by omega)).mpr h).trans nI_0)
    refine lv_iload_n hx hb d_M_kindAt_8 rfl (lv_at hl 2 rfl) ?_
    refine lv_iconst (v := nI 1) hx hb d_M_kindAt_9 (by decide) ?_
    refine lv_icmp_lt (tgt := 19) hx hb d_M_kindAt_10 (by decide) (fun c10 => ?_) (fun c10 => ?_)
    · refine lv_iconst (v := -1) hx hb d_M_kindAt_19 (by decide) ?_
      exact hret (-1) 20 ls (by unfold fKindAt; rw [ifc_neg (fun h => okT_lt (by omega) c10 h.2)]) d_M_kindAt_20
    · refine lv_iload_n hx hb d_M_kindAt_13 rfl (lv_at hl 2 rfl) ?_
      refine lv_bipush (v := nI 7) hx hb d_M_kindAt_14 (by decide) ?_
      refine lv_icmp_le (tgt := 21) hx hb d_M_kindAt_16 (by decide) (fun c16 => ?_) (fun c16 => ?_)
      · obtain ⟨t, ht1, ht2, ext⟩ := hok2.mp (by omega)
        rw [ext] at hl
        obtain ⟨j, hj1, hj2, exj⟩ := okT_of (by omega) c10 (Int32.not_lt.mpr c16)
        rw [exj] at hl
        refine lv_aload_n hx hb d_M_kindAt_21 rfl (lv_at hl 0 rfl) ?_
        refine lv_iload_n hx hb d_M_kindAt_22 rfl (lv_at hl 1 rfl) ?_
        refine lv_iload_n hx hb d_M_kindAt_23 rfl (lv_at hl 2 rfl) ?_
        refine lv_lload_n hx hb d_M_kindAt_24 rfl (lv_at hl 3 rfl) ?_
        refine QryI.callV (ci := 3) (q0 := 0) (m_find l dC dI cI cL cB mo m1 m2 m3 m4 m5 m6 m7 m8 m9 m10 m11 ck nT gm gt cn a kk ky kd nu tb nx ot ch fi la sz t j k hMI (by omega) (by omega)) ⟨hx, hb, hml, hown, hw⟩ (fz_cwV 3 hw m_427 m_424 m_426 ms_20 m_4 rfl rfl (by decide +kernel) ⟨Nat.le_of_ble_eq_true rfl, Nat.le_of_ble_eq_true rfl⟩) hK hP [0, 1, 2, 3, 4, 5, 6, 7, 8, 9, 10, 11] rfl rfl rfl rfl rfl hl.1 rfl (Nat.le_of_ble_eq_true rfl) d_M_kindAt_25 ⟨(Nat.le_of_ble_eq_true rfl), (Nat.le_of_ble_eq_true rfl)⟩ (fun r25 h25 => ?_)
        subst h25
        refine lv_istore (lv' := [(5, .int (nI (aF a (t * 8 + j) k))), (0, .ref mo), (1, .int (nI t)), (2, .int (nI j)), (3, .long k)]) hx hb d_M_kindAt_28 hl (by decide) rfl (fun ls hl => ?_)
        refine lv_iload hx hb d_M_kindAt_30 (lv_at hl 0 rfl) ?_
        have hfl := aF_le a (t * 8 + j) k
        refine lv_if_ne (tgt := 39) hx hb d_M_kindAt_32 (by decide) (fun c32 => ?_) (fun c32 => ?_)
        · have c32 : ¬ aF a (t * 8 + j) k = 0 := fun h => c32 (((nI_eq (by omega) (by omega)).mpr h).trans nI_0)
          refine lv_aload_n hx hb d_M_kindAt_39 rfl (lv_at hl 1 rfl) ?_
          refine va_get (D := (dC, dI)) (ci := 3) (v := .ref m3) (C := R_M) (T := T_M) (N := 15) hx hb hw in_M hown hK hP 0 rfl rfl 2 (by decide) (hw _ m_363) (fun _ h9 => h9) rfl d_M_kindAt_40 ?_
          refine lv_iload hx hb d_M_kindAt_43 (lv_at hl 0 rfl) ?_
          refine fz_bald hx hb hK hP 3 2 rfl rfl (j := aF a (t * 8 + j) k) (by omega) (by omega) d_M_kindAt_45 ?_
          exact hret (nI (kd (aF a (t * 8 + j) k))) 46 ls (by unfold fKindAt; rw [ifc_pos ⟨hok2.mp (by omega), okT_of (by omega) c10 (Int32.not_lt.mpr c16)⟩, ext, exj, tN_nI (by omega), tN_nI (by omega)]; rw [hMS.D c32]) d_M_kindAt_46
        · have c32 : aF a (t * 8 + j) k = 0 := (nI_eq (by omega) (by omega)).mp (c32.trans nI_0.symm)
          refine lv_iconst (v := nI 0) hx hb d_M_kindAt_35 (by decide) ?_
          refine lv_goto (tgt := 46) hx hb d_M_kindAt_36 (by decide) ?_
          exact hret (nI 0) 46 ls (by unfold fKindAt; rw [ifc_pos ⟨hok2.mp (by omega), okT_of (by omega) c10 (Int32.not_lt.mpr c16)⟩, ext, exj, tN_nI (by omega), tN_nI (by omega)]; rw [vD_0 hAI c32]) d_M_kindAt_46
      · refine lv_iconst (v := -1) hx hb d_M_kindAt_19 (by decide) ?_
        exact hret (-1) 20 ls (by unfold fKindAt; rw [ifc_neg (fun h => okT_nle (by omega) c16 h.2)]) d_M_kindAt_20
set_option maxHeartbeats 4000000 in
set_option maxRecDepth 100000 in
/-- numberAt -/
theorem m_numberAt (l : Launch) (dC : Nat → ClassId) (dI : Nat → Nat → Nat) (cI cL cB : ClassId) (mo : Nat) (m1 : Nat) (m2 : Nat) (m3 : Nat) (m4 : Nat) (m5 : Nat) (m6 : Nat) (m7 : Nat) (m8 : Nat) (m9 : Nat) (m10 : Nat) (m11 : Nat) (ck : Nat) (nT : Nat) (gm : Nat) (gt : Nat) (cn : Int64) (a : AS) (kk : Nat → Nat) (ky : Nat → Int64) (kd : Nat → Nat) (nu : Nat → Int64) (tb : Nat → Nat) (nx : Nat → Nat) (ot : Nat → Nat) (ch : Nat → Nat) (fi : Nat → Nat) (la : Nat → Nat) (sz : Nat → Nat) (x : Int32) (kx : Int32) (k : Int64) (hMI : MI nT a gm gt kk ky kd nu tb nx ot ch fi la sz) : QryL l y_M_numberAt (wd y_M_numberAt b_M_numberAt 5 (some .long)) 3 75 (dC, dI) classes (tyK cI cL cB) [.ref mo, .int x, .int kx, .long k] [(mo, .inr (3, [.ref m1, .ref m2, .ref m3, .ref m4, .ref m5, .ref m6, .ref m7, .int (nI (aN a)), .ref m8, .ref m9, .ref m10, .ref m11, .int (nI nT), .int (nI ck), .long cn])), (m1, .inl (cB, md_L gm, .inl (nf kk))), (m2, .inl (cL, md_L gm, .inr (.inl ky))), (m3, .inl (cB, md_L gm, .inl (nf kd))), (m4, .inl (cL, md_L gm, .inr (.inl nu))), (m5, .inl (cI, md_L gm, .inl (nf tb))), (m6, .inl (cI, md_L gm, .inl (nf nx))), (m7, .inl (cI, md_L gm, .inl (nf ot))), (m8, .inl (cI, 8191, .inl (nf ch))), (m9, .inl (cI, md_R gt, .inl (nf fi))), (m10, .inl (cI, md_R gt, .inl (nf la))), (m11, .inl (cI, md_R gt, .inl (nf sz)))] (fun r : Int64 => r = fNumberAt nT a x kx k) := by
  obtain ⟨hMS, hMT, hgt, hRT⟩ := id hMI
  have hAI := hMS.1
  have hnT := hMS.2.1
  have hgm := hMS.2.2.1
  have hnL := hMS.2.2.2.1
  have hAg := hMS.2.2.2.2.1
  have hk8 := hMS.2.2.2.2.2.1
  have hd7 := hMS.2.2.2.2.2.2.1
  have hdz := hMS.2.2.2.2.2.2.2.1
  have hch := hMS.2.2.2.2.2.2.2.2.1
  have hot := hMS.2.2.2.2.2.2.2.2.2
  have hg1 := md_gen gm hgm
  have hg2 := md_gen gt hgt
  have hn4 := hAI.1
  refine QryL.mk (cc := b_M_numberAt) (maxL := 5) (by decide) rfl (Nat.le_of_ble_eq_true rfl) ?_
  intro p e s m below meth c Z ls hx hb hml hown hts hP hK hret hl
  have hP : va_P (dC, dI) classes [(mo, .inr (3, [.ref m1, .ref m2, .ref m3, .ref m4, .ref m5, .ref m6, .ref m7, .int (nI (aN a)), .ref m8, .ref m9, .ref m10, .ref m11, .int (nI nT), .int (nI ck), .long cn])), (m1, .inl (cB, md_L gm, .inl (nf kk))), (m2, .inl (cL, md_L gm, .inr (.inl ky))), (m3, .inl (cB, md_L gm, .inl (nf kd))), (m4, .inl (cL, md_L gm, .inr (.inl nu))), (m5, .inl (cI, md_L gm, .inl (nf tb))), (m6, .inl (cI, md_L gm, .inl (nf nx))), (m7, .inl (cI, md_L gm, .inl (nf ot))), (m8, .inl (cI, 8191, .inl (nf ch))), (m9, .inl (cI, md_R gt, .inl (nf fi))), (m10, .inl (cI, md_R gt, .inl (nf la))), (m11, .inl (cI, md_R gt, .inl (nf sz)))] s.heap := hP
  have hown : s.vm.findClass R_M = some m.cls := hown
  have hw : ∀ x ∈ WALL, x.before _ s = true := fun x h => hts x (List.mem_cons_of_mem _ h)
  have hl : lv_has ls 5 [(0, .ref mo), (1, .int x), (2, .int kx), (3, .long k)] := hl
  refine lv_aload_n hx hb d_M_numberAt_0 rfl (lv_at hl 0 rfl) ?_
  refine lv_iload_n hx hb d_M_numberAt_1 rfl (lv_at hl 1 rfl) ?_
  refine lv_iload_n hx hb d_M_numberAt_2 rfl (lv_at hl 2 rfl) ?_
  refine lv_lload_n hx hb d_M_numberAt_3 rfl (lv_at hl 3 rfl) ?_
  refine QryI.callV (ci := 3) (q0 := 0) (m_kindAt l dC dI cI cL cB mo m1 m2 m3 m4 m5 m6 m7 m8 m9 m10 m11 ck nT gm gt cn a kk ky kd nu tb nx ot ch fi la sz x kx k hMI) ⟨hx, hb, hml, hown, hw⟩ (fz_cwV 3 hw m_456 m_461 m_454 m_455 m_4 rfl rfl (by decide +kernel) ⟨Nat.le_of_ble_eq_true rfl, Nat.le_of_ble_eq_true rfl⟩) hK hP [0, 1, 2, 3, 4, 5, 6, 7, 8, 9, 10, 11] rfl rfl rfl rfl rfl hl.1 rfl (Nat.le_of_ble_eq_true rfl) d_M_numberAt_4 ⟨(Nat.le_of_ble_eq_true rfl), (Nat.le_of_ble_eq_true rfl)⟩ (fun r4 h4 => ?_)
  subst h4
  refine lv_if_le (tgt := 25) hx hb d_M_numberAt_7 (by decide) (fun c7 => ?_) (fun c7 => ?_)
  · refine lv_lconst (v := lN 0) hx hb d_M_numberAt_25 rfl ?_
    exact hret (lN 0) 26 ls (fN_le hAI hnT c7).symm d_M_numberAt_26
  · obtain ⟨⟨hokx, hokk⟩, hvz⟩ := fN_ok c7
    have hokx2 := hokx
    have hokk2 := hokk
    obtain ⟨t, ht1, ht2, ext⟩ := hokx
    rw [ext] at hl
    obtain ⟨j, hj1, hj2, exj⟩ := hokk
    rw [exj] at hl
    rw [ext, exj, tN_nI (by omega), tN_nI (by omega)] at hvz
    have hfz := vD_F hAI hvz
    have hfl := aF_le a (t * 8 + j) k
    refine lv_aload_n hx hb d_M_numberAt_10 rfl (lv_at hl 0 rfl) ?_
    refine va_get (D := (dC, dI)) (ci := 3) (v := .ref m4) (C := R_M) (T := T_M) (N := 15) hx hb hw in_M hown hK hP 0 rfl rfl 3 (by decide) (hw _ m_364) (fun _ h9 => h9) rfl d_M_numberAt_11 ?_
    refine lv_aload_n hx hb d_M_numberAt_14 rfl (lv_at hl 0 rfl) ?_
    refine lv_iload_n hx hb d_M_numberAt_15 rfl (lv_at hl 1 rfl) ?_
    refine lv_iload_n hx hb d_M_numberAt_16 rfl (lv_at hl 2 rfl) ?_
    refine lv_lload_n hx hb d_M_numberAt_17 rfl (lv_at hl 3 rfl) ?_
    refine QryI.callV (ci := 3) (q0 := 0) (m_find l dC dI cI cL cB mo m1 m2 m3 m4 m5 m6 m7 m8 m9 m10 m11 ck nT gm gt cn a kk ky kd nu tb nx ot ch fi la sz t j k hMI (by omega) (by omega)) ⟨hx, hb, hml, hown, hw⟩ (fz_cwV 3 hw m_427 m_424 m_426 ms_20 m_4 rfl rfl (by decide +kernel) ⟨Nat.le_of_ble_eq_true rfl, Nat.le_of_ble_eq_true rfl⟩) hK hP [0, 1, 2, 3, 4, 5, 6, 7, 8, 9, 10, 11] rfl rfl rfl rfl rfl hl.1 rfl (Nat.le_of_ble_eq_true rfl) d_M_numberAt_18 ⟨(Nat.le_of_ble_eq_true rfl), (Nat.le_of_ble_eq_true rfl)⟩ (fun r18 h18 => ?_)
    subst h18
    refine fz_lald hx hb hK hP 4 1 rfl rfl (j := aF a (t * 8 + j) k) (by omega) (by omega) d_M_numberAt_21 ?_
    refine lv_goto (tgt := 26) hx hb d_M_numberAt_22 (by decide) ?_
    exact hret (nu (aF a (t * 8 + j) k)) 26 ls (by unfold fNumberAt; rw [ifc_pos ⟨hokx2, hokk2⟩, ext, exj, tN_nI (by omega), tN_nI (by omega), hMS.V hfz]) d_M_numberAt_26
set_option maxHeartbeats 4000000 in
set_option maxRecDepth 100000 in
/-- edge -/
theorem m_edge (l : Launch) (dC : Nat → ClassId) (dI : Nat → Nat → Nat) (cI cL cB : ClassId) (mo : Nat) (m1 : Nat) (m2 : Nat) (m3 : Nat) (m4 : Nat) (m5 : Nat) (m6 : Nat) (m7 : Nat) (m8 : Nat) (m9 : Nat) (m10 : Nat) (m11 : Nat) (ck : Nat) (nT : Nat) (gm : Nat) (gt : Nat) (cn : Int64) (a : AS) (kk : Nat → Nat) (ky : Nat → Int64) (kd : Nat → Nat) (nu : Nat → Int64) (tb : Nat → Nat) (nx : Nat → Nat) (ot : Nat → Nat) (ch : Nat → Nat) (fi : Nat → Nat) (la : Nat → Nat) (sz : Nat → Nat) (t : Nat) (hMI : MI nT a gm gt kk ky kd nu tb nx ot ch fi la sz) (ht2 : t ≤ nT) : QryI l y_M_edge (wd y_M_edge b_M_edge 5 (some .int)) 3 73 (dC, dI) classes (tyK cI cL cB) [.ref mo, .int (nI t)] [(mo, .inr (3, [.ref m1, .ref m2, .ref m3, .ref m4, .ref m5, .ref m6, .ref m7, .int (nI (aN a)), .ref m8, .ref m9, .ref m10, .ref m11, .int (nI nT), .int (nI ck), .long cn])), (m1, .inl (cB, md_L gm, .inl (nf kk))), (m2, .inl (cL, md_L gm, .inr (.inl ky))), (m3, .inl (cB, md_L gm, .inl (nf kd))), (m4, .inl (cL, md_L gm, .inr (.inl nu))), (m5, .inl (cI, md_L gm, .inl (nf tb))), (m6, .inl (cI, md_L gm, .inl (nf nx))), (m7, .inl (cI, md_L gm, .inl (nf ot))), (m8, .inl (cI, 8191, .inl (nf ch))), (m9, .inl (cI, md_R gt, .inl (nf fi))), (m10, .inl (cI, md_R gt, .inl (nf la))), (m11, .inl (cI, md_R gt, .inl (nf sz)))] (fun r : Int32 => r = nI (bd a t)) := by
  obtain ⟨hMS, hMT, hgt, hRT⟩ := id hMI
  have hAI := hMS.1
  have hnT := hMS.2.1
  have hgm := hMS.2.2.1
  have hnL := hMS.2.2.2.1
  have hAg := hMS.2.2.2.2.1
  have hk8 := hMS.2.2.2.2.2.1
  have hd7 := hMS.2.2.2.2.2.2.1
  have hdz := hMS.2.2.2.2.2.2.2.1
  have hch := hMS.2.2.2.2.2.2.2.2.1
  have hot := hMS.2.2.2.2.2.2.2.2.2
  have hg1 := md_gen gm hgm
  have hg2 := md_gen gt hgt
  have hn4 := hAI.1
  refine QryI.mk (cc := b_M_edge) (maxL := 5) (by decide) rfl (Nat.le_of_ble_eq_true rfl) ?_
  intro p e s m below meth c Z ls hx hb hml hown hts hP hK hret hl
  have hP : va_P (dC, dI) classes [(mo, .inr (3, [.ref m1, .ref m2, .ref m3, .ref m4, .ref m5, .ref m6, .ref m7, .int (nI (aN a)), .ref m8, .ref m9, .ref m10, .ref m11, .int (nI nT), .int (nI ck), .long cn])), (m1, .inl (cB, md_L gm, .inl (nf kk))), (m2, .inl (cL, md_L gm, .inr (.inl ky))), (m3, .inl (cB, md_L gm, .inl (nf kd))), (m4, .inl (cL, md_L gm, .inr (.inl nu))), (m5, .inl (cI, md_L gm, .inl (nf tb))), (m6, .inl (cI, md_L gm, .inl (nf nx))), (m7, .inl (cI, md_L gm, .inl (nf ot))), (m8, .inl (cI, 8191, .inl (nf ch))), (m9, .inl (cI, md_R gt, .inl (nf fi))), (m10, .inl (cI, md_R gt, .inl (nf la))), (m11, .inl (cI, md_R gt, .inl (nf sz)))] s.heap := hP
  have hown : s.vm.findClass R_M = some m.cls := hown
  have hw : ∀ x ∈ WALL, x.before _ s = true := fun x h => hts x (List.mem_cons_of_mem _ h)
  have hl : lv_has ls 5 [(0, .ref mo), (1, .int (nI t))] := hl
  refine lv_iconst (v := nI 0) hx hb d_M_edge_0 (by decide) ?_
  refine lv_istore_n (lv' := [(2, .int (nI 0)), (0, .ref mo), (1, .int (nI t))]) hx hb d_M_edge_1 rfl hl (by decide) rfl (fun ls hl => ?_)
  refine lv_iconst (v := nI 1) hx hb d_M_edge_2 (by decide) ?_
  refine lv_istore_n (lv' := [(3, .int (nI 1)), (2, .int (nI 0)), (0, .ref mo), (1, .int (nI t))]) hx hb d_M_edge_3 rfl hl (by decide) rfl (fun ls hl => ?_)
  have loop_4 : ∀ (fuel : Nat) (b : Nat) (mo2 : Nat), (∀ j, 1 ≤ j → j ≤ b → wK a t j ≠ 0) → (mo2 = 1 ∨ (mo2 = 0 ∧ wK a t (b + 1) = 0)) → 2 * (40001 - b) + mo2 < fuel → ∀ (ls : Array Slot), lv_has ls 5 [(0, .ref mo), (1, .int (nI t)), (2, .int (nI b)), (3, .int (nI mo2))] → W p l e { frames := 3, cells := 0, slots := 0, locals := 73 } s m [.ref mo, .int (nI t)].toArray below meth c s.heap [] 0 0 Z (F0 m 4 ls []) := by
    intro fuel
    induction fuel with
    | zero => intro b mo2 hB hmo hfuel; exact absurd hfuel (Nat.not_lt_zero _)
    | succ fuel ih =>
      intro b mo2 hB hmo hfuel ls hl
      have hbn := wB_le hAI hB
      refine lv_iload_n hx hb d_M_edge_4 rfl (lv_at hl 3 rfl) ?_
      refine lv_if_eq (tgt := 55) hx hb d_M_edge_5 (by decide) (fun c5 => ?_) (fun c5 => ?_)
      · have c5 : mo2 = 0 := (nI_eq (by omega) (by omega)).mp (c5.trans nI_0.symm)
        refine lv_iload_n hx hb d_M_edge_55 rfl (lv_at hl 2 rfl) ?_
        exact hret (nI b) 56 ls (by rw [bd_eq ⟨hB, hmo.elim (fun q => absurd q (by omega)) (fun q => q.2)⟩]) d_M_edge_56
      · have c5 : ¬ mo2 = 0 := fun h => c5 (((nI_eq (by omega) (by omega)).mpr h).trans nI_0)
        refine lv_aload_n hx hb d_M_edge_8 rfl (lv_at hl 0 rfl) ?_
        refine lv_iload_n hx hb d_M_edge_9 rfl (lv_at hl 1 rfl) ?_
        refine lv_iload_n hx hb d_M_edge_10 rfl (lv_at hl 2 rfl) ?_
        refine lv_i2l (v := lN b) hx hb d_M_edge_11 (nI_l (by omega)) ?_
        refine lv_lconst (v := lN 1) hx hb d_M_edge_12 rfl ?_
        refine lv_ladd hx hb d_M_edge_13 ?_
        refine fz_eql (y := lN (b + 1)) (lN_add b 1) ?_
        refine QryI.callV (ci := 3) (q0 := 0) (m_findWhole l dC dI cI cL cB mo m1 m2 m3 m4 m5 m6 m7 m8 m9 m10 m11 ck nT gm gt cn a kk ky kd nu tb nx ot ch fi la sz t (lN (b + 1)) hMI (by omega)) ⟨hx, hb, hml, hown, hw⟩ (fz_cwV 2 hw m_473 m_470 m_472 ms_25 m_4 rfl rfl (by decide +kernel) ⟨Nat.le_of_ble_eq_true rfl, Nat.le_of_ble_eq_true rfl⟩) hK hP [0, 1, 2, 3, 4, 5, 6, 7, 8, 9, 10, 11] rfl rfl rfl rfl rfl hl.1 rfl (Nat.le_of_ble_eq_true rfl) d_M_edge_14 ⟨(Nat.le_of_ble_eq_true rfl), (Nat.le_of_ble_eq_true rfl)⟩ (fun r14 h14 => ?_)
        subst h14
        refine lv_istore (lv' := [(4, .int (nI (aF a (t * 8 + 3) (lN (b + 1))))), (0, .ref mo), (1, .int (nI t)), (2, .int (nI b)), (3, .int (nI mo2))]) hx hb d_M_edge_17 hl (by decide) rfl (fun ls hl => ?_)
        refine lv_iload hx hb d_M_edge_19 (lv_at hl 0 rfl) ?_
        have hfl := aF_le a (t * 8 + 3) (lN (b + 1))
        refine lv_if_le (tgt := 38) hx hb d_M_edge_21 (by decide) (fun c21 => ?_) (fun c21 => ?_)
        · have c21 : aF a (t * 8 + 3) (lN (b + 1)) ≤ 0 := by rw [← nI_0] at c21; exact (nI_leI (by omega) (by omega)).mp c21
          refine lv_iconst (v := nI 0) hx hb d_M_edge_38 (by decide) ?_
          refine lv_istore_n (lv' := [(3, .int (nI 0)), (4, .int (nI (aF a (t * 8 + 3) (lN (b + 1))))), (0, .ref mo), (1, .int (nI t)), (2, .int (nI b))]) hx hb d_M_edge_39 rfl hl (by decide) rfl (fun ls hl => ?_)
          refine lv_iload_n hx hb d_M_edge_40 rfl (lv_at hl 4 rfl) ?_
          refine lv_iload_n hx hb d_M_edge_41 rfl (lv_at hl 0 rfl) ?_
          refine lv_if_eq (tgt := 49) hx hb d_M_edge_42 (by decide) (fun c42 => ?_) (fun c42 => ?_)
          · have c42 : 0 = 0 := (nI_eq (by omega) (by omega)).mp (c42.trans nI_0.symm)
            refine lv_iconst (v := nI 0) hx hb d_M_edge_49 (by decide) ?_
            refine lv_iadd hx hb d_M_edge_50 ?_
            refine fz_eqi (y := nI b) (nI_add b 0) ?_
            refine lv_istore_n (lv' := [(2, .int (nI b)), (3, .int (nI 0)), (4, .int (nI (aF a (t * 8 + 3) (lN (b + 1))))), (0, .ref mo), (1, .int (nI t))]) hx hb d_M_edge_51 rfl hl (by decide) rfl (fun ls hl => ?_)
            refine lv_goto (tgt := 4) hx hb d_M_edge_52 (by decide) ?_
            exact ih b 0 hB (Or.inr ⟨rfl, vD_0 hAI (by omega)⟩) (by omega) ls (lv_sub hl [3, 4, 0, 1] rfl)
          · have c42 : ¬ 0 = 0 := fun h => c42 (((nI_eq (by omega) (by omega)).mpr h).trans nI_0)
            exact absurd rfl c42
        · have c21 : ¬ aF a (t * 8 + 3) (lN (b + 1)) ≤ 0 := fun h => c21 (by rw [← nI_0]; exact (nI_leI (by omega) (by omega)).mpr h)
          refine lv_aload_n hx hb d_M_edge_24 rfl (lv_at hl 1 rfl) ?_
          refine va_get (D := (dC, dI)) (ci := 3) (v := .ref m3) (C := R_M) (T := T_M) (N := 15) hx hb hw in_M hown hK hP 0 rfl rfl 2 (by decide) (hw _ m_363) (fun _ h9 => h9) rfl d_M_edge_25 ?_
          refine lv_iload hx hb d_M_edge_28 (lv_at hl 0 rfl) ?_
          refine fz_bald hx hb hK hP 3 2 rfl rfl (j := aF a (t * 8 + 3) (lN (b + 1))) (by omega) (by omega) d_M_edge_30 ?_
          have hdf := hd7 (aF a (t * 8 + 3) (lN (b + 1)))
          refine lv_if_le (tgt := 38) hx hb d_M_edge_31 (by decide) (fun c31 => ?_) (fun c31 => ?_)
          · have c31 : kd (aF a (t * 8 + 3) (lN (b + 1))) ≤ 0 := by rw [← nI_0] at c31; exact (nI_leI (by omega) (by omega)).mp c31
            refine lv_iconst (v := nI 0) hx hb d_M_edge_38 (by decide) ?_
            refine lv_istore_n (lv' := [(3, .int (nI 0)), (4, .int (nI (aF a (t * 8 + 3) (lN (b + 1))))), (0, .ref mo), (1, .int (nI t)), (2, .int (nI b))]) hx hb d_M_edge_39 rfl hl (by decide) rfl (fun ls hl => ?_)
            refine lv_iload_n hx hb d_M_edge_40 rfl (lv_at hl 4 rfl) ?_
            refine lv_iload_n hx hb d_M_edge_41 rfl (lv_at hl 0 rfl) ?_
            refine lv_if_eq (tgt := 49) hx hb d_M_edge_42 (by decide) (fun c42 => ?_) (fun c42 => ?_)
            · have c42 : 0 = 0 := (nI_eq (by omega) (by omega)).mp (c42.trans nI_0.symm)
              refine lv_iconst (v := nI 0) hx hb d_M_edge_49 (by decide) ?_
              refine lv_iadd hx hb d_M_edge_50 ?_
              refine fz_eqi (y := nI b) (nI_add b 0) ?_
              refine lv_istore_n (lv' := [(2, .int (nI b)), (3, .int (nI 0)), (4, .int (nI (aF a (t * 8 + 3) (lN (b + 1))))), (0, .ref mo), (1, .int (nI t))]) hx hb d_M_edge_51 rfl hl (by decide) rfl (fun ls hl => ?_)
              refine lv_goto (tgt := 4) hx hb d_M_edge_52 (by decide) ?_
              exact ih b 0 hB (Or.inr ⟨rfl, by show vD a _ _ = 0; rw [← hMS.D (by omega)]; omega⟩) (by omega) ls (lv_sub hl [3, 4, 0, 1] rfl)
            · have c42 : ¬ 0 = 0 := fun h => c42 (((nI_eq (by omega) (by omega)).mpr h).trans nI_0)
              exact absurd rfl c42
          · have c31 : ¬ kd (aF a (t * 8 + 3) (lN (b + 1))) ≤ 0 := fun h => c31 (by rw [← nI_0]; exact (nI_leI (by omega) (by omega)).mpr h)
            refine lv_iconst (v := nI 1) hx hb d_M_edge_34 (by decide) ?_
            refine lv_goto (tgt := 39) hx hb d_M_edge_35 (by decide) ?_
            refine lv_istore_n (lv' := [(3, .int (nI 1)), (4, .int (nI (aF a (t * 8 + 3) (lN (b + 1))))), (0, .ref mo), (1, .int (nI t)), (2, .int (nI b))]) hx hb d_M_edge_39 rfl hl (by decide) rfl (fun ls hl => ?_)
            refine lv_iload_n hx hb d_M_edge_40 rfl (lv_at hl 4 rfl) ?_
            refine lv_iload_n hx hb d_M_edge_41 rfl (lv_at hl 0 rfl) ?_
            refine lv_if_eq (tgt := 49) hx hb d_M_edge_42 (by decide) (fun c42 => ?_) (fun c42 => ?_)
            · have c42 : 1 = 0 := (nI_eq (by omega) (by omega)).mp (c42.trans nI_0.symm)
              exact absurd c42 (by omega)
            · have c42 : ¬ 1 = 0 := fun h => c42 (((nI_eq (by omega) (by omega)).mpr h).trans nI_0)
              refine lv_iconst (v := nI 1) hx hb d_M_edge_45 (by decide) ?_
              refine lv_goto (tgt := 50) hx hb d_M_edge_46 (by decide) ?_
              refine lv_iadd hx hb d_M_edge_50 ?_
              refine fz_eqi (y := nI (b + 1)) (nI_add b 1) ?_
              refine lv_istore_n (lv' := [(2, .int (nI (b + 1))), (3, .int (nI 1)), (4, .int (nI (aF a (t * 8 + 3) (lN (b + 1))))), (0, .ref mo), (1, .int (nI t))]) hx hb d_M_edge_51 rfl hl (by decide) rfl (fun ls hl => ?_)
              refine lv_goto (tgt := 4) hx hb d_M_edge_52 (by decide) ?_
              exact ih (b + 1) 1 (fun j h1 h2 => by
                rcases Nat.lt_or_ge j (b + 1) with q | q
                · exact hB j h1 (by omega)
                · rw [show j = b + 1 by omega]; show vD a _ _ ≠ 0; rw [← hMS.D (by omega)]; omega) (Or.inl rfl) (by omega) ls (lv_sub hl [3, 4, 0, 1] rfl)
  exact loop_4 (2 * (40001 - 0) + 1 + 1) 0 1 (fun j h1 h2 => by omega) (Or.inl rfl) (Nat.lt_succ_self _) ls (lv_sub hl [2, 3, 1, 0] rfl)
set_option maxHeartbeats 4000000 in
set_option maxRecDepth 100000 in
/-- border -/
theorem m_border (l : Launch) (dC : Nat → ClassId) (dI : Nat → Nat → Nat) (cI cL cB : ClassId) (mo : Nat) (m1 : Nat) (m2 : Nat) (m3 : Nat) (m4 : Nat) (m5 : Nat) (m6 : Nat) (m7 : Nat) (m8 : Nat) (m9 : Nat) (m10 : Nat) (m11 : Nat) (ck : Nat) (nT : Nat) (gm : Nat) (gt : Nat) (cn : Int64) (a : AS) (kk : Nat → Nat) (ky : Nat → Int64) (kd : Nat → Nat) (nu : Nat → Int64) (tb : Nat → Nat) (nx : Nat → Nat) (ot : Nat → Nat) (ch : Nat → Nat) (fi : Nat → Nat) (la : Nat → Nat) (sz : Nat → Nat) (x : Int32) (hMI : MI nT a gm gt kk ky kd nu tb nx ot ch fi la sz) : QryI l y_M_border (wd y_M_border b_M_border 2 (some .int)) 4 97 (dC, dI) classes (tyK cI cL cB) [.ref mo, .int x] [(mo, .inr (3, [.ref m1, .ref m2, .ref m3, .ref m4, .ref m5, .ref m6, .ref m7, .int (nI (aN a)), .ref m8, .ref m9, .ref m10, .ref m11, .int (nI nT), .int (nI ck), .long cn])), (m1, .inl (cB, md_L gm, .inl (nf kk))), (m2, .inl (cL, md_L gm, .inr (.inl ky))), (m3, .inl (cB, md_L gm, .inl (nf kd))), (m4, .inl (cL, md_L gm, .inr (.inl nu))), (m5, .inl (cI, md_L gm, .inl (nf tb))), (m6, .inl (cI, md_L gm, .inl (nf nx))), (m7, .inl (cI, md_L gm, .inl (nf ot))), (m8, .inl (cI, 8191, .inl (nf ch))), (m9, .inl (cI, md_R gt, .inl (nf fi))), (m10, .inl (cI, md_R gt, .inl (nf la))), (m11, .inl (cI, md_R gt, .inl (nf sz)))] (fun r : Int32 => r = fBorder nT a x) := by
  obtain ⟨hMS, hMT, hgt, hRT⟩ := id hMI
  have hAI := hMS.1
  have hnT := hMS.2.1
  have hgm := hMS.2.2.1
  have hnL := hMS.2.2.2.1
  have hAg := hMS.2.2.2.2.1
  have hk8 := hMS.2.2.2.2.2.1
  have hd7 := hMS.2.2.2.2.2.2.1
  have hdz := hMS.2.2.2.2.2.2.2.1
  have hch := hMS.2.2.2.2.2.2.2.2.1
  have hot := hMS.2.2.2.2.2.2.2.2.2
  have hg1 := md_gen gm hgm
  have hg2 := md_gen gt hgt
  have hn4 := hAI.1
  refine QryI.mk (cc := b_M_border) (maxL := 2) (by decide) rfl (Nat.le_of_ble_eq_true rfl) ?_
  intro p e s m below meth c Z ls hx hb hml hown hts hP hK hret hl
  have hP : va_P (dC, dI) classes [(mo, .inr (3, [.ref m1, .ref m2, .ref m3, .ref m4, .ref m5, .ref m6, .ref m7, .int (nI (aN a)), .ref m8, .ref m9, .ref m10, .ref m11, .int (nI nT), .int (nI ck), .long cn])), (m1, .inl (cB, md_L gm, .inl (nf kk))), (m2, .inl (cL, md_L gm, .inr (.inl ky))), (m3, .inl (cB, md_L gm, .inl (nf kd))), (m4, .inl (cL, md_L gm, .inr (.inl nu))), (m5, .inl (cI, md_L gm, .inl (nf tb))), (m6, .inl (cI, md_L gm, .inl (nf nx))), (m7, .inl (cI, md_L gm, .inl (nf ot))), (m8, .inl (cI, 8191, .inl (nf ch))), (m9, .inl (cI, md_R gt, .inl (nf fi))), (m10, .inl (cI, md_R gt, .inl (nf la))), (m11, .inl (cI, md_R gt, .inl (nf sz)))] s.heap := hP
  have hown : s.vm.findClass R_M = some m.cls := hown
  have hw : ∀ x ∈ WALL, x.before _ s = true := fun x h => hts x (List.mem_cons_of_mem _ h)
  have hl : lv_has ls 2 [(0, .ref mo), (1, .int x)] := hl
  refine lv_aload_n hx hb d_M_border_0 rfl (lv_at hl 0 rfl) ?_
  refine lv_iload_n hx hb d_M_border_1 rfl (lv_at hl 1 rfl) ?_
  refine QryI.callV (ci := 3) (q0 := 0) (m_isTable l dC dI cI cL cB mo m1 m2 m3 m4 m5 m6 m7 m8 m9 m10 m11 ck nT (aN a) cn x (by omega)) ⟨hx, hb, hml, hown, hw⟩ (fz_cwV 1 hw m_422 m_419 m_421 ms_19 m_4 rfl rfl (by decide +kernel) ⟨Nat.le_of_ble_eq_true rfl, Nat.le_of_ble_eq_true rfl⟩) hK hP [0] rfl rfl rfl rfl rfl hl.1 rfl (Nat.le_of_ble_eq_true rfl) d_M_border_2 ⟨(Nat.le_of_ble_eq_true rfl), (Nat.le_of_ble_eq_true rfl)⟩ (fun r2 h2 => ?_)
  obtain ⟨b2, hb2, e2, hok2⟩ := h2
  subst e2
  refine lv_if_eq (tgt := 16) hx hb d_M_border_5 (by decide) (fun c5 => ?_) (fun c5 => ?_)
  · have c5 : b2 = 0 := (nI_eq (by omega) (by omega)).mp (c5.trans nI_0.symm)
    refine lv_iconst (v := -1) hx hb d_M_border_16 (by decide) ?_
    exact hret (-1) 17 ls (by unfold fBorder; rw [ifc_neg (fun h => absurd (hok2.mpr h) (by omega))]) d_M_border_17
  · have c5 : ¬ b2 = 0 := fun h => c5 (((nI_eq (by omega) (by omega)).mpr h).trans nI_0)
    obtain ⟨t, ht1, ht2, ext⟩ := hok2.mp (by omega)
    rw [ext] at hl
    refine lv_aload_n hx hb d_M_border_8 rfl (lv_at hl 0 rfl) ?_
    refine lv_iload_n hx hb d_M_border_9 rfl (lv_at hl 1 rfl) ?_
    refine QryI.callV (ci := 3) (q0 := 0) (m_edge l dC dI cI cL cB mo m1 m2 m3 m4 m5 m6 m7 m8 m9 m10 m11 ck nT gm gt cn a kk ky kd nu tb nx ot ch fi la sz t hMI (by omega)) ⟨hx, hb, hml, hown, hw⟩ (fz_cwV 1 hw m_469 m_466 m_468 ms_24 m_4 rfl rfl (by decide +kernel) ⟨Nat.le_of_ble_eq_true rfl, Nat.le_of_ble_eq_true rfl⟩) hK hP [0, 1, 2, 3, 4, 5, 6, 7, 8, 9, 10, 11] rfl rfl rfl rfl rfl hl.1 rfl (Nat.le_of_ble_eq_true rfl) d_M_border_10 ⟨(Nat.le_of_ble_eq_true rfl), (Nat.le_of_ble_eq_true rfl)⟩ (fun r10 h10 => ?_)
    subst h10
    refine lv_goto (tgt := 17) hx hb d_M_border_13 (by decide) ?_
    exact hret (nI (bd a t)) 17 ls (by unfold fBorder; rw [ifc_pos (hok2.mp (by omega)), ext, tN_nI (by omega)]) d_M_border_17
set_option maxHeartbeats 4000000 in
set_option maxRecDepth 100000 in
/-- keys -/
theorem m_keys (l : Launch) (dC : Nat → ClassId) (dI : Nat → Nat → Nat) (cI cL cB : ClassId) (mo : Nat) (m1 : Nat) (m2 : Nat) (m3 : Nat) (m4 : Nat) (m5 : Nat) (m6 : Nat) (m7 : Nat) (m8 : Nat) (m9 : Nat) (m10 : Nat) (m11 : Nat) (ck : Nat) (nT : Nat) (gm : Nat) (gt : Nat) (cn : Int64) (a : AS) (kk : Nat → Nat) (ky : Nat → Int64) (kd : Nat → Nat) (nu : Nat → Int64) (tb : Nat → Nat) (nx : Nat → Nat) (ot : Nat → Nat) (ch : Nat → Nat) (fi : Nat → Nat) (la : Nat → Nat) (sz : Nat → Nat) (x : Int32) (hMI : MI nT a gm gt kk ky kd nu tb nx ot ch fi la sz) : QryI l y_M_keys (wd y_M_keys b_M_keys 2 (some .int)) 1 21 (dC, dI) classes (tyK cI cL cB) [.ref mo, .int x] [(mo, .inr (3, [.ref m1, .ref m2, .ref m3, .ref m4, .ref m5, .ref m6, .ref m7, .int (nI (aN a)), .ref m8, .ref m9, .ref m10, .ref m11, .int (nI nT), .int (nI ck), .long cn])), (m1, .inl (cB, md_L gm, .inl (nf kk))), (m2, .inl (cL, md_L gm, .inr (.inl ky))), (m3, .inl (cB, md_L gm, .inl (nf kd))), (m4, .inl (cL, md_L gm, .inr (.inl nu))), (m5, .inl (cI, md_L gm, .inl (nf tb))), (m6, .inl (cI, md_L gm, .inl (nf nx))), (m7, .inl (cI, md_L gm, .inl (nf ot))), (m8, .inl (cI, 8191, .inl (nf ch))), (m9, .inl (cI, md_R gt, .inl (nf fi))), (m10, .inl (cI, md_R gt, .inl (nf la))), (m11, .inl (cI, md_R gt, .inl (nf sz)))] (fun r : Int32 => r = fKeys nT a x) := by
  obtain ⟨hMS, hMT, hgt, hRT⟩ := id hMI
  have hAI := hMS.1
  have hnT := hMS.2.1
  have hgm := hMS.2.2.1
  have hnL := hMS.2.2.2.1
  have hAg := hMS.2.2.2.2.1
  have hk8 := hMS.2.2.2.2.2.1
  have hd7 := hMS.2.2.2.2.2.2.1
  have hdz := hMS.2.2.2.2.2.2.2.1
  have hch := hMS.2.2.2.2.2.2.2.2.1
  have hot := hMS.2.2.2.2.2.2.2.2.2
  have hg1 := md_gen gm hgm
  have hg2 := md_gen gt hgt
  have hn4 := hAI.1
  refine QryI.mk (cc := b_M_keys) (maxL := 2) (by decide) rfl (Nat.le_of_ble_eq_true rfl) ?_
  intro p e s m below meth c Z ls hx hb hml hown hts hP hK hret hl
  have hP : va_P (dC, dI) classes [(mo, .inr (3, [.ref m1, .ref m2, .ref m3, .ref m4, .ref m5, .ref m6, .ref m7, .int (nI (aN a)), .ref m8, .ref m9, .ref m10, .ref m11, .int (nI nT), .int (nI ck), .long cn])), (m1, .inl (cB, md_L gm, .inl (nf kk))), (m2, .inl (cL, md_L gm, .inr (.inl ky))), (m3, .inl (cB, md_L gm, .inl (nf kd))), (m4, .inl (cL, md_L gm, .inr (.inl nu))), (m5, .inl (cI, md_L gm, .inl (nf tb))), (m6, .inl (cI, md_L gm, .inl (nf nx))), (m7, .inl (cI, md_L gm, .inl (nf ot))), (m8, .inl (cI, 8191, .inl (nf ch))), (m9, .inl (cI, md_R gt, .inl (nf fi))), (m10, .inl (cI, md_R gt, .inl (nf la))), (m11, .inl (cI, md_R gt, .inl (nf sz)))] s.heap := hP
  have hown : s.vm.findClass R_M = some m.cls := hown
  have hw : ∀ x ∈ WALL, x.before _ s = true := fun x h => hts x (List.mem_cons_of_mem _ h)
  have hl : lv_has ls 2 [(0, .ref mo), (1, .int x)] := hl
  refine lv_aload_n hx hb d_M_keys_0 rfl (lv_at hl 0 rfl) ?_
  refine lv_iload_n hx hb d_M_keys_1 rfl (lv_at hl 1 rfl) ?_
  refine QryI.callV (ci := 3) (q0 := 0) (m_isTable l dC dI cI cL cB mo m1 m2 m3 m4 m5 m6 m7 m8 m9 m10 m11 ck nT (aN a) cn x (by omega)) ⟨hx, hb, hml, hown, hw⟩ (fz_cwV 1 hw m_422 m_419 m_421 ms_19 m_4 rfl rfl (by decide +kernel) ⟨Nat.le_of_ble_eq_true rfl, Nat.le_of_ble_eq_true rfl⟩) hK hP [0] rfl rfl rfl rfl rfl hl.1 rfl (Nat.le_of_ble_eq_true rfl) d_M_keys_2 ⟨(Nat.le_of_ble_eq_true rfl), (Nat.le_of_ble_eq_true rfl)⟩ (fun r2 h2 => ?_)
  obtain ⟨b2, hb2, e2, hok2⟩ := h2
  subst e2
  refine lv_if_eq (tgt := 17) hx hb d_M_keys_5 (by decide) (fun c5 => ?_) (fun c5 => ?_)
  · have c5 : b2 = 0 := (nI_eq (by omega) (by omega)).mp (c5.trans nI_0.symm)
    refine lv_iconst (v := -1) hx hb d_M_keys_17 (by decide) ?_
    exact hret (-1) 18 ls (by unfold fKeys; rw [ifc_neg (fun h => absurd (hok2.mpr h) (by omega))]) d_M_keys_18
  · have c5 : ¬ b2 = 0 := fun h => c5 (((nI_eq (by omega) (by omega)).mpr h).trans nI_0)
    obtain ⟨t, ht1, ht2, ext⟩ := hok2.mp (by omega)
    rw [ext] at hl
    refine lv_aload_n hx hb d_M_keys_8 rfl (lv_at hl 0 rfl) ?_
    refine va_get (D := (dC, dI)) (ci := 3) (v := .ref m11) (C := R_M) (T := T_M) (N := 15) hx hb hw in_M hown hK hP 0 rfl rfl 11 (by decide) (hw _ m_372) (fun _ h9 => h9) rfl d_M_keys_9 ?_
    refine lv_iload_n hx hb d_M_keys_12 rfl (lv_at hl 1 rfl) ?_
    refine fz_iald hx hb hK hP 11 0 rfl rfl (j := t) (by omega) (by omega) d_M_keys_13 ?_
    refine lv_goto (tgt := 18) hx hb d_M_keys_14 (by decide) ?_
    exact hret (nI (sz t)) 18 ls (by unfold fKeys; rw [ifc_pos (hok2.mp (by omega)), ext, tN_nI (by omega), ← (hMT.2.1 t ht1 ht2).2.2]) d_M_keys_18
set_option maxHeartbeats 4000000 in
set_option maxRecDepth 100000 in
/-- fields -/
theorem m_fields (l : Launch) (dC : Nat → ClassId) (dI : Nat → Nat → Nat) (cI cL cB : ClassId) (mo : Nat) (m1 : Nat) (m2 : Nat) (m3 : Nat) (m4 : Nat) (m5 : Nat) (m6 : Nat) (m7 : Nat) (m8 : Nat) (m9 : Nat) (m10 : Nat) (m11 : Nat) (ck : Nat) (nT : Nat) (gm : Nat) (gt : Nat) (cn : Int64) (a : AS) (kk : Nat → Nat) (ky : Nat → Int64) (kd : Nat → Nat) (nu : Nat → Int64) (tb : Nat → Nat) (nx : Nat → Nat) (ot : Nat → Nat) (ch : Nat → Nat) (fi : Nat → Nat) (la : Nat → Nat) (sz : Nat → Nat) (x : Int32) (hMI : MI nT a gm gt kk ky kd nu tb nx ot ch fi la sz) : QryI l y_M_fields (wd y_M_fields b_M_fields 4 (some .int)) 1 21 (dC, dI) classes (tyK cI cL cB) [.ref mo, .int x] [(mo, .inr (3, [.ref m1, .ref m2, .ref m3, .ref m4, .ref m5, .ref m6, .ref m7, .int (nI (aN a)), .ref m8, .ref m9, .ref m10, .ref m11, .int (nI nT), .int (nI ck), .long cn])), (m1, .inl (cB, md_L gm, .inl (nf kk))), (m2, .inl (cL, md_L gm, .inr (.inl ky))), (m3, .inl (cB, md_L gm, .inl (nf kd))), (m4, .inl (cL, md_L gm, .inr (.inl nu))), (m5, .inl (cI, md_L gm, .inl (nf tb))), (m6, .inl (cI, md_L gm, .inl (nf nx))), (m7, .inl (cI, md_L gm, .inl (nf ot))), (m8, .inl (cI, 8191, .inl (nf ch))), (m9, .inl (cI, md_R gt, .inl (nf fi))), (m10, .inl (cI, md_R gt, .inl (nf la))), (m11, .inl (cI, md_R gt, .inl (nf sz)))] (fun r : Int32 => r = fFields nT a x) := by
  obtain ⟨hMS, hMT, hgt, hRT⟩ := id hMI
  have hAI := hMS.1
  have hnT := hMS.2.1
  have hgm := hMS.2.2.1
  have hnL := hMS.2.2.2.1
  have hAg := hMS.2.2.2.2.1
  have hk8 := hMS.2.2.2.2.2.1
  have hd7 := hMS.2.2.2.2.2.2.1
  have hdz := hMS.2.2.2.2.2.2.2.1
  have hch := hMS.2.2.2.2.2.2.2.2.1
  have hot := hMS.2.2.2.2.2.2.2.2.2
  have hg1 := md_gen gm hgm
  have hg2 := md_gen gt hgt
  have hn4 := hAI.1
  refine QryI.mk (cc := b_M_fields) (maxL := 4) (by decide) rfl (Nat.le_of_ble_eq_true rfl) ?_
  intro p e s m below meth c Z ls hx hb hml hown hts hP hK hret hl
  have hP : va_P (dC, dI) classes [(mo, .inr (3, [.ref m1, .ref m2, .ref m3, .ref m4, .ref m5, .ref m6, .ref m7, .int (nI (aN a)), .ref m8, .ref m9, .ref m10, .ref m11, .int (nI nT), .int (nI ck), .long cn])), (m1, .inl (cB, md_L gm, .inl (nf kk))), (m2, .inl (cL, md_L gm, .inr (.inl ky))), (m3, .inl (cB, md_L gm, .inl (nf kd))), (m4, .inl (cL, md_L gm, .inr (.inl nu))), (m5, .inl (cI, md_L gm, .inl (nf tb))), (m6, .inl (cI, md_L gm, .inl (nf nx))), (m7, .inl (cI, md_L gm, .inl (nf ot))), (m8, .inl (cI, 8191, .inl (nf ch))), (m9, .inl (cI, md_R gt, .inl (nf fi))), (m10, .inl (cI, md_R gt, .inl (nf la))), (m11, .inl (cI, md_R gt, .inl (nf sz)))] s.heap := hP
  have hown : s.vm.findClass R_M = some m.cls := hown
  have hw : ∀ x ∈ WALL, x.before _ s = true := fun x h => hts x (List.mem_cons_of_mem _ h)
  have hl : lv_has ls 4 [(0, .ref mo), (1, .int x)] := hl
  refine lv_aload_n hx hb d_M_fields_0 rfl (lv_at hl 0 rfl) ?_
  refine lv_iload_n hx hb d_M_fields_1 rfl (lv_at hl 1 rfl) ?_
  refine QryI.callV (ci := 3) (q0 := 0) (m_isTable l dC dI cI cL cB mo m1 m2 m3 m4 m5 m6 m7 m8 m9 m10 m11 ck nT (aN a) cn x (by omega)) ⟨hx, hb, hml, hown, hw⟩ (fz_cwV 1 hw m_422 m_419 m_421 ms_19 m_4 rfl rfl (by decide +kernel) ⟨Nat.le_of_ble_eq_true rfl, Nat.le_of_ble_eq_true rfl⟩) hK hP [0] rfl rfl rfl rfl rfl hl.1 rfl (Nat.le_of_ble_eq_true rfl) d_M_fields_2 ⟨(Nat.le_of_ble_eq_true rfl), (Nat.le_of_ble_eq_true rfl)⟩ (fun r2 h2 => ?_)
  obtain ⟨b2, hb2, e2, hok2⟩ := h2
  subst e2
  refine lv_if_ne (tgt := 10) hx hb d_M_fields_5 (by decide) (fun c5 => ?_) (fun c5 => ?_)
  · have c5 : ¬ b2 = 0 := fun h => c5 (((nI_eq (by omega) (by omega)).mpr h).trans nI_0)
    obtain ⟨t, ht1, ht2, ext⟩ := hok2.mp (by omega)
    rw [ext] at hl
    refine lv_iconst (v := nI 0) hx hb d_M_fields_10 (by decide) ?_
    refine lv_istore_n (lv' := [(2, .int (nI 0)), (0, .ref mo), (1, .int (nI t))]) hx hb d_M_fields_11 rfl hl (by decide) rfl (fun ls hl => ?_)
    refine lv_aload_n hx hb d_M_fields_12 rfl (lv_at hl 1 rfl) ?_
    refine va_get (D := (dC, dI)) (ci := 3) (v := .ref m9) (C := R_M) (T := T_M) (N := 15) hx hb hw in_M hown hK hP 0 rfl rfl 9 (by decide) (hw _ m_370) (fun _ h9 => h9) rfl d_M_fields_13 ?_
    refine lv_iload_n hx hb d_M_fields_16 rfl (lv_at hl 2 rfl) ?_
    refine fz_iald hx hb hK hP 9 0 rfl rfl (j := t) (by omega) (by omega) d_M_fields_17 ?_
    refine lv_istore_n (lv' := [(3, .int (nI (fi t))), (2, .int (nI 0)), (0, .ref mo), (1, .int (nI t))]) hx hb d_M_fields_18 rfl hl (by decide) rfl (fun ls hl => ?_)
    have loop_19 : ∀ (fuel : Nat) (fld : Nat) (cm : Nat) (q : Nat), ch_N (aO a) t (aN a) q fld → q ≤ aN a → cm = cvq a t q → aN a - q < fuel → ∀ (ls : Array Slot), lv_has ls 4 [(0, .ref mo), (1, .int (nI t)), (2, .int (nI cm)), (3, .int (nI fld))] → W p l e { frames := 1, cells := 0, slots := 0, locals := 21 } s m [.ref mo, .int x].toArray below meth c s.heap [] 0 0 Z (F0 m 19 ls []) := by
      intro fuel
      induction fuel with
      | zero => intro fld cm q hfl hqn hcm hfuel; exact absurd hfuel (Nat.not_lt_zero _)
      | succ fuel ih =>
        intro fld cm q hfl hqn hcm hfuel ls hl
        have hfn := hfl.le
        have hcl := cvq_le a t q
        refine lv_iload_n hx hb d_M_fields_19 rfl (lv_at hl 3 rfl) ?_
        refine lv_if_le (tgt := 50) hx hb d_M_fields_20 (by decide) (fun c20 => ?_) (fun c20 => ?_)
        · have c20 : fld ≤ 0 := by rw [← nI_0] at c20; exact (nI_leI (by omega) (by omega)).mp c20
          refine lv_iload_n hx hb d_M_fields_50 rfl (lv_at hl 2 rfl) ?_
          exact hret (nI cm) 51 ls (by unfold fFields; rw [ifc_pos (hok2.mp (by omega)), ext, tN_nI (by omega), ← cvq_end hfl (by omega) hqn, hcm]) d_M_fields_51
        · have c20 : ¬ fld ≤ 0 := fun h => c20 (by rw [← nI_0]; exact (nI_leI (by omega) (by omega)).mpr h)
          have hz9 : fld ≠ 0 := by omega
          have hff := hfl.facts hz9
          have hdf := hd7 fld
          have hAf := hAg fld (by omega) hfn
          have hcs := cvq_step hfl hz9
          refine lv_iload_n hx hb d_M_fields_23 rfl (lv_at hl 2 rfl) ?_
          refine lv_aload_n hx hb d_M_fields_24 rfl (lv_at hl 0 rfl) ?_
          refine va_get (D := (dC, dI)) (ci := 3) (v := .ref m3) (C := R_M) (T := T_M) (N := 15) hx hb hw in_M hown hK hP 0 rfl rfl 2 (by decide) (hw _ m_363) (fun _ h9 => h9) rfl d_M_fields_25 ?_
          refine lv_iload_n hx hb d_M_fields_28 rfl (lv_at hl 3 rfl) ?_
          refine fz_bald hx hb hK hP 3 2 rfl rfl (j := fld) (by omega) (by omega) d_M_fields_29 ?_
          refine lv_if_le (tgt := 37) hx hb d_M_fields_30 (by decide) (fun c30 => ?_) (fun c30 => ?_)
          · have c30 : kd fld ≤ 0 := by rw [← nI_0] at c30; exact (nI_leI (by omega) (by omega)).mp c30
            refine lv_iconst (v := nI 0) hx hb d_M_fields_37 (by decide) ?_
            refine lv_iadd hx hb d_M_fields_38 ?_
            refine fz_eqi (y := nI cm) (nI_add cm 0) ?_
            refine lv_istore_n (lv' := [(2, .int (nI cm)), (0, .ref mo), (1, .int (nI t)), (3, .int (nI fld))]) hx hb d_M_fields_39 rfl hl (by decide) rfl (fun ls hl => ?_)
            refine lv_aload_n hx hb d_M_fields_40 rfl (lv_at hl 1 rfl) ?_
            refine va_get (D := (dC, dI)) (ci := 3) (v := .ref m6) (C := R_M) (T := T_M) (N := 15) hx hb hw in_M hown hK hP 0 rfl rfl 5 (by decide) (hw _ m_366) (fun _ h9 => h9) rfl d_M_fields_41 ?_
            refine lv_iload_n hx hb d_M_fields_44 rfl (lv_at hl 3 rfl) ?_
            refine fz_iald hx hb hK hP 6 0 rfl rfl (j := fld) (by omega) (by omega) d_M_fields_45 ?_
            refine lv_istore_n (lv' := [(3, .int (nI (nx fld))), (2, .int (nI cm)), (0, .ref mo), (1, .int (nI t))]) hx hb d_M_fields_46 rfl hl (by decide) rfl (fun ls hl => ?_)
            refine lv_goto (tgt := 19) hx hb d_M_fields_47 (by decide) ?_
            exact ih (nx fld) cm fld (by have := hMT.1 fld (by omega) hfn; rw [hff.2.2] at this; exact this) hfn (by rw [hcs, if_pos (by rw [← hAf.2.2.2.1]; omega), hcm]; rfl) (by omega) ls (lv_sub hl [2, 3, 1, 0] rfl)
          · have c30 : ¬ kd fld ≤ 0 := fun h => c30 (by rw [← nI_0]; exact (nI_leI (by omega) (by omega)).mpr h)
            refine lv_iconst (v := nI 1) hx hb d_M_fields_33 (by decide) ?_
            refine lv_goto (tgt := 38) hx hb d_M_fields_34 (by decide) ?_
            refine lv_iadd hx hb d_M_fields_38 ?_
            refine fz_eqi (y := nI (cm + 1)) (nI_add cm 1) ?_
            refine lv_istore_n (lv' := [(2, .int (nI (cm + 1))), (0, .ref mo), (1, .int (nI t)), (3, .int (nI fld))]) hx hb d_M_fields_39 rfl hl (by decide) rfl (fun ls hl => ?_)
            refine lv_aload_n hx hb d_M_fields_40 rfl (lv_at hl 1 rfl) ?_
            refine va_get (D := (dC, dI)) (ci := 3) (v := .ref m6) (C := R_M) (T := T_M) (N := 15) hx hb hw in_M hown hK hP 0 rfl rfl 5 (by decide) (hw _ m_366) (fun _ h9 => h9) rfl d_M_fields_41 ?_
            refine lv_iload_n hx hb d_M_fields_44 rfl (lv_at hl 3 rfl) ?_
            refine fz_iald hx hb hK hP 6 0 rfl rfl (j := fld) (by omega) (by omega) d_M_fields_45 ?_
            refine lv_istore_n (lv' := [(3, .int (nI (nx fld))), (2, .int (nI (cm + 1))), (0, .ref mo), (1, .int (nI t))]) hx hb d_M_fields_46 rfl hl (by decide) rfl (fun ls hl => ?_)
            refine lv_goto (tgt := 19) hx hb d_M_fields_47 (by decide) ?_
            exact ih (nx fld) (cm + 1) fld (by have := hMT.1 fld (by omega) hfn; rw [hff.2.2] at this; exact this) hfn (by rw [hcs, if_neg (by rw [← hAf.2.2.2.1]; omega), hcm]) (by omega) ls (lv_sub hl [2, 3, 1, 0] rfl)
    exact loop_19 (aN a - 0 + 1) (fi t) 0 0 (hMT.2.1 t ht1 ht2).1 (Nat.zero_le _) rfl (Nat.lt_succ_self _) ls (lv_sub hl [2, 3, 1, 0] rfl)
  · have c5 : b2 = 0 := (nI_eq (by omega) (by omega)).mp (c5.trans nI_0.symm)
    refine lv_iconst (v := -1) hx hb d_M_fields_8 (by decide) ?_
    exact hret (-1) 9 ls (by unfold fFields; rw [ifc_neg (fun h => absurd (hok2.mpr h) (by omega))]) d_M_fields_9
set_option maxHeartbeats 4000000 in
set_option maxRecDepth 100000 in
/-- isRow -/
theorem m_isRow (l : Launch) (dC : Nat → ClassId) (dI : Nat → Nat → Nat) (cI cL cB : ClassId) (mo : Nat) (m1 : Nat) (m2 : Nat) (m3 : Nat) (m4 : Nat) (m5 : Nat) (m6 : Nat) (m7 : Nat) (m8 : Nat) (m9 : Nat) (m10 : Nat) (m11 : Nat) (ck : Nat) (nT : Nat) (cnt : Nat) (cn : Int64) (x : Int32) (frm : Int64) (n : Int32) (sp : Int32) (hnT : nT ≤ 30000) : QryI l y_M_isRow (wd y_M_isRow b_M_isRow 6 (some .boolean)) 1 21 (dC, dI) classes (tyK cI cL cB) [.ref mo, .int x, .long frm, .int n, .int sp] [(mo, .inr (3, [.ref m1, .ref m2, .ref m3, .ref m4, .ref m5, .ref m6, .ref m7, .int (nI cnt), .ref m8, .ref m9, .ref m10, .ref m11, .int (nI nT), .int (nI ck), .long cn]))] (fun r : Int32 => ∃ b, b ≤ 1 ∧ r = nI b ∧ (b = 1 ↔ okRun nT x frm n sp)) := by
  refine QryZ.mk (cc := b_M_isRow) (maxL := 6) (by decide) rfl (Nat.le_of_ble_eq_true rfl) ?_
  intro p e s m below meth c Z ls hx hb hml hown hts hP hK hret hl
  have hP : va_P (dC, dI) classes [(mo, .inr (3, [.ref m1, .ref m2, .ref m3, .ref m4, .ref m5, .ref m6, .ref m7, .int (nI cnt), .ref m8, .ref m9, .ref m10, .ref m11, .int (nI nT), .int (nI ck), .long cn]))] s.heap := hP
  have hown : s.vm.findClass R_M = some m.cls := hown
  have hw : ∀ x ∈ WALL, x.before _ s = true := fun x h => hts x (List.mem_cons_of_mem _ h)
  have hl : lv_has ls 6 [(0, .ref mo), (1, .int x), (2, .long frm), (4, .int n), (5, .int sp)] := hl
  refine lv_aload_n hx hb d_M_isRow_0 rfl (lv_at hl 0 rfl) ?_
  refine lv_iload_n hx hb d_M_isRow_1 rfl (lv_at hl 1 rfl) ?_
  refine QryI.callV (ci := 3) (q0 := 0) (m_isTable l dC dI cI cL cB mo m1 m2 m3 m4 m5 m6 m7 m8 m9 m10 m11 ck nT cnt cn x (by omega)) ⟨hx, hb, hml, hown, hw⟩ (fz_cwV 1 hw m_422 m_419 m_421 ms_19 m_4 rfl rfl (by decide +kernel) ⟨Nat.le_of_ble_eq_true rfl, Nat.le_of_ble_eq_true rfl⟩) hK hP [0] rfl rfl rfl rfl rfl hl.1 rfl (Nat.le_of_ble_eq_true rfl) d_M_isRow_2 ⟨(Nat.le_of_ble_eq_true rfl), (Nat.le_of_ble_eq_true rfl)⟩ (fun r2 h2 => ?_)
  obtain ⟨b2, hb2, e2, hok2⟩ := h2
  subst e2
  refine lv_if_eq (tgt := 55) hx hb d_M_isRow_5 (by decide) (fun c5 => ?_) (fun c5 => ?_)
  · have c5 : b2 = 0 := (nI_eq (by omega) (by omega)).mp (c5.trans nI_0.symm)
    refine lv_iconst (v := nI 0) hx hb d_M_isRow_55 (by decide) ?_
    exact hret (nI 0) 56 ls (Or.inl rfl) ⟨0, by omega, rfl, fun h => absurd h (by omega), fun h => absurd h (fun q => absurd (hok2.mpr q.1) (by omega))⟩ d_M_isRow_56
  · have c5 : ¬ b2 = 0 := fun h => c5 (((nI_eq (by omega) (by omega)).mpr h).trans nI_0)
    refine lv_iload hx hb d_M_isRow_8 (lv_at hl 3 rfl) ?_
    refine lv_if_lt (tgt := 55) hx hb d_M_isRow_10 (by decide) (fun c10 => ?_) (fun c10 => ?_)
    · refine lv_iconst (v := nI 0) hx hb d_M_isRow_55 (by decide) ?_
      exact hret (nI 0) 56 ls (Or.inl rfl) ⟨0, by omega, rfl, fun h => absurd h (by omega), fun h => absurd h (fun q => okN_lt (by omega) c10 q.2.1)⟩ d_M_isRow_56
    · refine lv_iload hx hb d_M_isRow_13 (lv_at hl 3 rfl) ?_
      refine lv_sipush (v := nI 20000) hx hb d_M_isRow_15 (by decide) ?_
      refine lv_icmp_gt (tgt := 55) hx hb d_M_isRow_18 (by decide) (fun c18 => ?_) (fun c18 => ?_)
      · refine lv_iconst (v := nI 0) hx hb d_M_isRow_55 (by decide) ?_
        exact hret (nI 0) 56 ls (Or.inl rfl) ⟨0, by omega, rfl, fun h => absurd h (by omega), fun h => absurd h (fun q => okN_gt (by omega) c18 q.2.1)⟩ d_M_isRow_56
      · refine lv_iload hx hb d_M_isRow_21 (lv_at hl 4 rfl) ?_
        refine lv_iconst (v := nI 1) hx hb d_M_isRow_23 (by decide) ?_
        refine lv_icmp_lt (tgt := 55) hx hb d_M_isRow_24 (by decide) (fun c24 => ?_) (fun c24 => ?_)
        · refine lv_iconst (v := nI 0) hx hb d_M_isRow_55 (by decide) ?_
          exact hret (nI 0) 56 ls (Or.inl rfl) ⟨0, by omega, rfl, fun h => absurd h (by omega), fun h => absurd h (fun q => okT_lt (by omega) c24 q.2.2.1)⟩ d_M_isRow_56
        · refine lv_iload hx hb d_M_isRow_27 (lv_at hl 4 rfl) ?_
          refine lv_sipush (v := nI 1000) hx hb d_M_isRow_29 (by decide) ?_
          refine lv_icmp_gt (tgt := 55) hx hb d_M_isRow_32 (by decide) (fun c32 => ?_) (fun c32 => ?_)
          · refine lv_iconst (v := nI 0) hx hb d_M_isRow_55 (by decide) ?_
            exact hret (nI 0) 56 ls (Or.inl rfl) ⟨0, by omega, rfl, fun h => absurd h (by omega), fun h => absurd h (fun q => okT_gt (by omega) c32 q.2.2.1)⟩ d_M_isRow_56
          · refine lv_lload_n hx hb d_M_isRow_35 rfl (lv_at hl 2 rfl) ?_
            refine lv_ldc2 (v := -1000000) hx hb hown (hw _ m_502) d_M_isRow_36 ?_
            refine W.lcmp hx hb d_M_isRow_39 ?_
            refine lv_if_lt (tgt := 55) hx hb d_M_isRow_40 (by decide) (fun c40 => ?_) (fun c40 => ?_)
            · have c40 : frm < (-1000000) := (lg_cmp_lt _ _).mp c40
              refine lv_iconst (v := nI 0) hx hb d_M_isRow_55 (by decide) ?_
              exact hret (nI 0) 56 ls (Or.inl rfl) ⟨0, by omega, rfl, fun h => absurd h (by omega), fun h => absurd h (fun q => q.2.2.2.1 c40)⟩ d_M_isRow_56
            · have c40 : ¬ frm < (-1000000) := fun h => c40 ((lg_cmp_lt _ _).mpr h)
              refine lv_lload_n hx hb d_M_isRow_43 rfl (lv_at hl 2 rfl) ?_
              refine lv_ldc2 (v := 1000000) hx hb hown (hw _ m_503) d_M_isRow_44 ?_
              refine fz_eql (y := lN 1000000) (by decide) ?_
              refine W.lcmp hx hb d_M_isRow_47 ?_
              refine lv_if_gt (tgt := 55) hx hb d_M_isRow_48 (by decide) (fun c48 => ?_) (fun c48 => ?_)
              · have c48 : lN 1000000 < frm := (lg_cmp_gt _ _).mp c48
                refine lv_iconst (v := nI 0) hx hb d_M_isRow_55 (by decide) ?_
                exact hret (nI 0) 56 ls (Or.inl rfl) ⟨0, by omega, rfl, fun h => absurd h (by omega), fun h => absurd h (fun q => q.2.2.2.2 c48)⟩ d_M_isRow_56
              · have c48 : ¬ lN 1000000 < frm := fun h => c48 ((lg_cmp_gt _ _).mpr h)
                refine lv_iconst (v := nI 1) hx hb d_M_isRow_51 (by decide) ?_
                refine lv_goto (tgt := 56) hx hb d_M_isRow_52 (by decide) ?_
                exact hret (nI 1) 56 ls (Or.inr rfl) ⟨1, by omega, rfl, fun _ => ⟨hok2.mp (by omega), okN_of (by omega) c10 c18, okT_of (by omega) c24 c32, c40, c48⟩, fun _ => rfl⟩ d_M_isRow_56
set_option maxHeartbeats 4000000 in
set_option maxRecDepth 100000 in
/-- cursorKind -/
theorem m_cursorKind (l : Launch) (dC : Nat → ClassId) (dI : Nat → Nat → Nat) (cI cL cB : ClassId) (mo : Nat) (m1 : Nat) (m2 : Nat) (m3 : Nat) (m4 : Nat) (m5 : Nat) (m6 : Nat) (m7 : Nat) (m8 : Nat) (m9 : Nat) (m10 : Nat) (m11 : Nat) (ck : Nat) (nT : Nat) (gm : Nat) (gt : Nat) (cn : Int64) (a : AS) (kk : Nat → Nat) (ky : Nat → Int64) (kd : Nat → Nat) (nu : Nat → Int64) (tb : Nat → Nat) (nx : Nat → Nat) (ot : Nat → Nat) (ch : Nat → Nat) (fi : Nat → Nat) (la : Nat → Nat) (sz : Nat → Nat)  : QryI l y_M_cursorKind (wd y_M_cursorKind b_M_cursorKind 1 (some .int)) 0 0 (dC, dI) classes (tyK cI cL cB) [.ref mo] [(mo, .inr (3, [.ref m1, .ref m2, .ref m3, .ref m4, .ref m5, .ref m6, .ref m7, .int (nI (aN a)), .ref m8, .ref m9, .ref m10, .ref m11, .int (nI nT), .int (nI ck), .long cn])), (m1, .inl (cB, md_L gm, .inl (nf kk))), (m2, .inl (cL, md_L gm, .inr (.inl ky))), (m3, .inl (cB, md_L gm, .inl (nf kd))), (m4, .inl (cL, md_L gm, .inr (.inl nu))), (m5, .inl (cI, md_L gm, .inl (nf tb))), (m6, .inl (cI, md_L gm, .inl (nf nx))), (m7, .inl (cI, md_L gm, .inl (nf ot))), (m8, .inl (cI, 8191, .inl (nf ch))), (m9, .inl (cI, md_R gt, .inl (nf fi))), (m10, .inl (cI, md_R gt, .inl (nf la))), (m11, .inl (cI, md_R gt, .inl (nf sz)))] (fun r : Int32 => r = nI ck) := by
  refine QryI.mk (cc := b_M_cursorKind) (maxL := 1) (by decide) rfl (Nat.le_of_ble_eq_true rfl) ?_
  intro p e s m below meth c Z ls hx hb hml hown hts hP hK hret hl
  have hP : va_P (dC, dI) classes [(mo, .inr (3, [.ref m1, .ref m2, .ref m3, .ref m4, .ref m5, .ref m6, .ref m7, .int (nI (aN a)), .ref m8, .ref m9, .ref m10, .ref m11, .int (nI nT), .int (nI ck), .long cn])), (m1, .inl (cB, md_L gm, .inl (nf kk))), (m2, .inl (cL, md_L gm, .inr (.inl ky))), (m3, .inl (cB, md_L gm, .inl (nf kd))), (m4, .inl (cL, md_L gm, .inr (.inl nu))), (m5, .inl (cI, md_L gm, .inl (nf tb))), (m6, .inl (cI, md_L gm, .inl (nf nx))), (m7, .inl (cI, md_L gm, .inl (nf ot))), (m8, .inl (cI, 8191, .inl (nf ch))), (m9, .inl (cI, md_R gt, .inl (nf fi))), (m10, .inl (cI, md_R gt, .inl (nf la))), (m11, .inl (cI, md_R gt, .inl (nf sz)))] s.heap := hP
  have hown : s.vm.findClass R_M = some m.cls := hown
  have hw : ∀ x ∈ WALL, x.before _ s = true := fun x h => hts x (List.mem_cons_of_mem _ h)
  have hl : lv_has ls 1 [(0, .ref mo)] := hl
  refine lv_aload_n hx hb d_M_cursorKind_0 rfl (lv_at hl 0 rfl) ?_
  refine va_get (D := (dC, dI)) (ci := 3) (v := .int (nI ck)) (C := R_M) (T := T_M) (N := 15) hx hb hw in_M hown hK hP 0 rfl rfl 13 (by decide) (hw _ m_374) (fun _ h9 => h9) rfl d_M_cursorKind_1 ?_
  exact hret (nI ck) 4 ls rfl d_M_cursorKind_4
set_option maxHeartbeats 4000000 in
set_option maxRecDepth 100000 in
/-- cursorNumber -/
theorem m_cursorNumber (l : Launch) (dC : Nat → ClassId) (dI : Nat → Nat → Nat) (cI cL cB : ClassId) (mo : Nat) (m1 : Nat) (m2 : Nat) (m3 : Nat) (m4 : Nat) (m5 : Nat) (m6 : Nat) (m7 : Nat) (m8 : Nat) (m9 : Nat) (m10 : Nat) (m11 : Nat) (ck : Nat) (nT : Nat) (gm : Nat) (gt : Nat) (cn : Int64) (a : AS) (kk : Nat → Nat) (ky : Nat → Int64) (kd : Nat → Nat) (nu : Nat → Int64) (tb : Nat → Nat) (nx : Nat → Nat) (ot : Nat → Nat) (ch : Nat → Nat) (fi : Nat → Nat) (la : Nat → Nat) (sz : Nat → Nat)  : QryL l y_M_cursorNumber (wd y_M_cursorNumber b_M_cursorNumber 1 (some .long)) 0 0 (dC, dI) classes (tyK cI cL cB) [.ref mo] [(mo, .inr (3, [.ref m1, .ref m2, .ref m3, .ref m4, .ref m5, .ref m6, .ref m7, .int (nI (aN a)), .ref m8, .ref m9, .ref m10, .ref m11, .int (nI nT), .int (nI ck), .long cn])), (m1, .inl (cB, md_L gm, .inl (nf kk))), (m2, .inl (cL, md_L gm, .inr (.inl ky))), (m3, .inl (cB, md_L gm, .inl (nf kd))), (m4, .inl (cL, md_L gm, .inr (.inl nu))), (m5, .inl (cI, md_L gm, .inl (nf tb))), (m6, .inl (cI, md_L gm, .inl (nf nx))), (m7, .inl (cI, md_L gm, .inl (nf ot))), (m8, .inl (cI, 8191, .inl (nf ch))), (m9, .inl (cI, md_R gt, .inl (nf fi))), (m10, .inl (cI, md_R gt, .inl (nf la))), (m11, .inl (cI, md_R gt, .inl (nf sz)))] (fun r : Int64 => r = cn) := by
  refine QryL.mk (cc := b_M_cursorNumber) (maxL := 1) (by decide) rfl (Nat.le_of_ble_eq_true rfl) ?_
  intro p e s m below meth c Z ls hx hb hml hown hts hP hK hret hl
  have hP : va_P (dC, dI) classes [(mo, .inr (3, [.ref m1, .ref m2, .ref m3, .ref m4, .ref m5, .ref m6, .ref m7, .int (nI (aN a)), .ref m8, .ref m9, .ref m10, .ref m11, .int (nI nT), .int (nI ck), .long cn])), (m1, .inl (cB, md_L gm, .inl (nf kk))), (m2, .inl (cL, md_L gm, .inr (.inl ky))), (m3, .inl (cB, md_L gm, .inl (nf kd))), (m4, .inl (cL, md_L gm, .inr (.inl nu))), (m5, .inl (cI, md_L gm, .inl (nf tb))), (m6, .inl (cI, md_L gm, .inl (nf nx))), (m7, .inl (cI, md_L gm, .inl (nf ot))), (m8, .inl (cI, 8191, .inl (nf ch))), (m9, .inl (cI, md_R gt, .inl (nf fi))), (m10, .inl (cI, md_R gt, .inl (nf la))), (m11, .inl (cI, md_R gt, .inl (nf sz)))] s.heap := hP
  have hown : s.vm.findClass R_M = some m.cls := hown
  have hw : ∀ x ∈ WALL, x.before _ s = true := fun x h => hts x (List.mem_cons_of_mem _ h)
  have hl : lv_has ls 1 [(0, .ref mo)] := hl
  refine lv_aload_n hx hb d_M_cursorNumber_0 rfl (lv_at hl 0 rfl) ?_
  refine va_get (D := (dC, dI)) (ci := 3) (v := .long cn) (C := R_M) (T := T_M) (N := 15) hx hb hw in_M hown hK hP 0 rfl rfl 14 (by decide) (hw _ m_375) (fun _ h9 => h9) rfl d_M_cursorNumber_1 ?_
  exact hret cn 4 ls rfl d_M_cursorNumber_4
set_option maxHeartbeats 4000000 in
set_option maxRecDepth 100000 in
/-- all -/
theorem m_all (l : Launch) (dC : Nat → ClassId) (dI : Nat → Nat → Nat) (cI cL cB : ClassId) (mo : Nat) (m1 : Nat) (m2 : Nat) (m3 : Nat) (m4 : Nat) (m5 : Nat) (m6 : Nat) (m7 : Nat) (m8 : Nat) (m9 : Nat) (m10 : Nat) (m11 : Nat) (ck : Nat) (nT : Nat) (gm : Nat) (gt : Nat) (cn : Int64) (a : AS) (kk : Nat → Nat) (ky : Nat → Int64) (kd : Nat → Nat) (nu : Nat → Int64) (tb : Nat → Nat) (nx : Nat → Nat) (ot : Nat → Nat) (ch : Nat → Nat) (fi : Nat → Nat) (la : Nat → Nat) (sz : Nat → Nat)  : QryI l y_M_all (wd y_M_all b_M_all 1 (some .int)) 0 0 (dC, dI) classes (tyK cI cL cB) [.ref mo] [(mo, .inr (3, [.ref m1, .ref m2, .ref m3, .ref m4, .ref m5, .ref m6, .ref m7, .int (nI (aN a)), .ref m8, .ref m9, .ref m10, .ref m11, .int (nI nT), .int (nI ck), .long cn])), (m1, .inl (cB, md_L gm, .inl (nf kk))), (m2, .inl (cL, md_L gm, .inr (.inl ky))), (m3, .inl (cB, md_L gm, .inl (nf kd))), (m4, .inl (cL, md_L gm, .inr (.inl nu))), (m5, .inl (cI, md_L gm, .inl (nf tb))), (m6, .inl (cI, md_L gm, .inl (nf nx))), (m7, .inl (cI, md_L gm, .inl (nf ot))), (m8, .inl (cI, 8191, .inl (nf ch))), (m9, .inl (cI, md_R gt, .inl (nf fi))), (m10, .inl (cI, md_R gt, .inl (nf la))), (m11, .inl (cI, md_R gt, .inl (nf sz)))] (fun r : Int32 => r = nI (aN a)) := by
  refine QryI.mk (cc := b_M_all) (maxL := 1) (by decide) rfl (Nat.le_of_ble_eq_true rfl) ?_
  intro p e s m below meth c Z ls hx hb hml hown hts hP hK hret hl
  have hP : va_P (dC, dI) classes [(mo, .inr (3, [.ref m1, .ref m2, .ref m3, .ref m4, .ref m5, .ref m6, .ref m7, .int (nI (aN a)), .ref m8, .ref m9, .ref m10, .ref m11, .int (nI nT), .int (nI ck), .long cn])), (m1, .inl (cB, md_L gm, .inl (nf kk))), (m2, .inl (cL, md_L gm, .inr (.inl ky))), (m3, .inl (cB, md_L gm, .inl (nf kd))), (m4, .inl (cL, md_L gm, .inr (.inl nu))), (m5, .inl (cI, md_L gm, .inl (nf tb))), (m6, .inl (cI, md_L gm, .inl (nf nx))), (m7, .inl (cI, md_L gm, .inl (nf ot))), (m8, .inl (cI, 8191, .inl (nf ch))), (m9, .inl (cI, md_R gt, .inl (nf fi))), (m10, .inl (cI, md_R gt, .inl (nf la))), (m11, .inl (cI, md_R gt, .inl (nf sz)))] s.heap := hP
  have hown : s.vm.findClass R_M = some m.cls := hown
  have hw : ∀ x ∈ WALL, x.before _ s = true := fun x h => hts x (List.mem_cons_of_mem _ h)
  have hl : lv_has ls 1 [(0, .ref mo)] := hl
  refine lv_aload_n hx hb d_M_all_0 rfl (lv_at hl 0 rfl) ?_
  refine va_get (D := (dC, dI)) (ci := 3) (v := .int (nI (aN a))) (C := R_M) (T := T_M) (N := 15) hx hb hw in_M hown hK hP 0 rfl rfl 7 (by decide) (hw _ m_368) (fun _ h9 => h9) rfl d_M_all_1 ?_
  exact hret (nI (aN a)) 4 ls rfl d_M_all_4
set_option maxHeartbeats 4000000 in
set_option maxRecDepth 100000 in
/-- put -/
theorem m_put (l : Launch) (dC : Nat → ClassId) (dI : Nat → Nat → Nat) (cI cL cB : ClassId) (mo : Nat) (m1 : Nat) (m2 : Nat) (m3 : Nat) (m4 : Nat) (m5 : Nat) (m6 : Nat) (m7 : Nat) (m8 : Nat) (m9 : Nat) (m10 : Nat) (m11 : Nat) (ck : Nat) (nT : Nat) (gm : Nat) (gt : Nat) (cn : Int64) (a : AS) (kk : Nat → Nat) (ky : Nat → Int64) (kd : Nat → Nat) (nu : Nat → Int64) (tb : Nat → Nat) (nx : Nat → Nat) (ot : Nat → Nat) (ch : Nat → Nat) (fi : Nat → Nat) (la : Nat → Nat) (sz : Nat → Nat) (x : Int32) (kx : Int32) (k : Int64) (vk : Int32) (vn : Int64) (hMI : MI nT a gm gt kk ky kd nu tb nx ot ch fi la sz) : StdI l y_M_put (wd y_M_put b_M_put 8 (some .int)) 4 104 (7 * (mF gm (aN ((fPut nT a x kx k vk vn).2)) - gm)) (Ms (mF gm (aN ((fPut nT a x kx k vk vn).2))) - Ms gm) (dC, dI) classes (tyK cI cL cB) [.ref mo, .int x, .int kx, .long k, .int vk, .long vn] [(mo, .inr (3, [.ref m1, .ref m2, .ref m3, .ref m4, .ref m5, .ref m6, .ref m7, .int (nI (aN a)), .ref m8, .ref m9, .ref m10, .ref m11, .int (nI nT), .int (nI ck), .long cn])), (m1, .inl (cB, md_L gm, .inl (nf kk))), (m2, .inl (cL, md_L gm, .inr (.inl ky))), (m3, .inl (cB, md_L gm, .inl (nf kd))), (m4, .inl (cL, md_L gm, .inr (.inl nu))), (m5, .inl (cI, md_L gm, .inl (nf tb))), (m6, .inl (cI, md_L gm, .inl (nf nx))), (m7, .inl (cI, md_L gm, .inl (nf ot))), (m8, .inl (cI, 8191, .inl (nf ch))), (m9, .inl (cI, md_R gt, .inl (nf fi))), (m10, .inl (cI, md_R gt, .inl (nf la))), (m11, .inl (cI, md_R gt, .inl (nf sz)))] (fun (r : Int32) (u : Nat × Nat × Nat × Nat × Nat × Nat × Nat × (Nat → Nat) × (Nat → Int64) × (Nat → Nat) × (Nat → Int64) × (Nat → Nat) × (Nat → Nat) × (Nat → Nat) × (Nat → Nat) × (Nat → Nat) × (Nat → Nat) × (Nat → Nat)) => r = (fPut nT a x kx k vk vn).1 ∧ MI nT ((fPut nT a x kx k vk vn).2) (mF gm (aN ((fPut nT a x kx k vk vn).2))) gt u.2.2.2.2.2.2.2.1 u.2.2.2.2.2.2.2.2.1 u.2.2.2.2.2.2.2.2.2.1 u.2.2.2.2.2.2.2.2.2.2.1 u.2.2.2.2.2.2.2.2.2.2.2.1 u.2.2.2.2.2.2.2.2.2.2.2.2.1 u.2.2.2.2.2.2.2.2.2.2.2.2.2.1 u.2.2.2.2.2.2.2.2.2.2.2.2.2.2.1 u.2.2.2.2.2.2.2.2.2.2.2.2.2.2.2.1 u.2.2.2.2.2.2.2.2.2.2.2.2.2.2.2.2.1 u.2.2.2.2.2.2.2.2.2.2.2.2.2.2.2.2.2) (fun (u : Nat × Nat × Nat × Nat × Nat × Nat × Nat × (Nat → Nat) × (Nat → Int64) × (Nat → Nat) × (Nat → Int64) × (Nat → Nat) × (Nat → Nat) × (Nat → Nat) × (Nat → Nat) × (Nat → Nat) × (Nat → Nat) × (Nat → Nat)) => [(mo, .inr (3, [.ref u.1, .ref u.2.1, .ref u.2.2.1, .ref u.2.2.2.1, .ref u.2.2.2.2.1, .ref u.2.2.2.2.2.1, .ref u.2.2.2.2.2.2.1, .int (nI (aN ((fPut nT a x kx k vk vn).2))), .ref m8, .ref m9, .ref m10, .ref m11, .int (nI nT), .int (nI ck), .long cn])), (u.1, .inl (cB, md_L (mF gm (aN ((fPut nT a x kx k vk vn).2))), .inl (nf u.2.2.2.2.2.2.2.1))), (u.2.1, .inl (cL, md_L (mF gm (aN ((fPut nT a x kx k vk vn).2))), .inr (.inl u.2.2.2.2.2.2.2.2.1))), (u.2.2.1, .inl (cB, md_L (mF gm (aN ((fPut nT a x kx k vk vn).2))), .inl (nf u.2.2.2.2.2.2.2.2.2.1))), (u.2.2.2.1, .inl (cL, md_L (mF gm (aN ((fPut nT a x kx k vk vn).2))), .inr (.inl u.2.2.2.2.2.2.2.2.2.2.1))), (u.2.2.2.2.1, .inl (cI, md_L (mF gm (aN ((fPut nT a x kx k vk vn).2))), .inl (nf u.2.2.2.2.2.2.2.2.2.2.2.1))), (u.2.2.2.2.2.1, .inl (cI, md_L (mF gm (aN ((fPut nT a x kx k vk vn).2))), .inl (nf u.2.2.2.2.2.2.2.2.2.2.2.2.1))), (u.2.2.2.2.2.2.1, .inl (cI, md_L (mF gm (aN ((fPut nT a x kx k vk vn).2))), .inl (nf u.2.2.2.2.2.2.2.2.2.2.2.2.2.1))), (m8, .inl (cI, 8191, .inl (nf u.2.2.2.2.2.2.2.2.2.2.2.2.2.2.1))), (m9, .inl (cI, md_R gt, .inl (nf u.2.2.2.2.2.2.2.2.2.2.2.2.2.2.2.1))), (m10, .inl (cI, md_R gt, .inl (nf u.2.2.2.2.2.2.2.2.2.2.2.2.2.2.2.2.1))), (m11, .inl (cI, md_R gt, .inl (nf u.2.2.2.2.2.2.2.2.2.2.2.2.2.2.2.2.2)))]) := by
  obtain ⟨hMS, hMT, hgt, hRT⟩ := id hMI
  have hAI := hMS.1
  have hnT := hMS.2.1
  have hgm := hMS.2.2.1
  have hnL := hMS.2.2.2.1
  have hAg := hMS.2.2.2.2.1
  have hk8 := hMS.2.2.2.2.2.1
  have hd7 := hMS.2.2.2.2.2.2.1
  have hdz := hMS.2.2.2.2.2.2.2.1
  have hch := hMS.2.2.2.2.2.2.2.2.1
  have hot := hMS.2.2.2.2.2.2.2.2.2
  have hg1 := md_gen gm hgm
  have hg2 := md_gen gt hgt
  have hn4 := hAI.1
  refine StdI.mk (cc := b_M_put) (maxL := 8) (by decide) rfl (Nat.le_of_ble_eq_true rfl) ?_
  intro p e s m below meth c A Z ls hx hb hml hown hts hin hP hK hD hA hS hret hl
  have hown : s.vm.findClass R_M = some m.cls := hown
  have hw : ∀ x ∈ WALL, x.before _ s = true := fun x h => hts x (List.mem_cons_of_mem _ h)
  have hl : lv_has ls 8 [(0, .ref mo), (1, .int x), (2, .int kx), (3, .long k), (5, .int vk), (6, .long vn)] := hl
  refine lv_aload_n hx hb d_M_put_0 rfl (lv_at hl 0 rfl) ?_
  refine lv_iload_n hx hb d_M_put_1 rfl (lv_at hl 1 rfl) ?_
  refine QryI.callV (ci := 3) (q0 := 0) (m_isTable l dC dI cI cL cB mo m1 m2 m3 m4 m5 m6 m7 m8 m9 m10 m11 ck nT (aN a) cn x (by omega)) ⟨hx, hb, hml, hown, hw⟩ (fz_cwV 1 hw m_422 m_419 m_421 ms_19 m_4 rfl rfl (by decide +kernel) ⟨Nat.le_of_ble_eq_true rfl, Nat.le_of_ble_eq_true rfl⟩) hK hP [0] rfl rfl rfl rfl rfl hl.1 rfl (Nat.le_of_ble_eq_true rfl) d_M_put_2 ⟨(by (try dsimp only); omega), (by (try dsimp only); omega)⟩ (fun r2 h2 => ?_)
  obtain ⟨b2, hb2, e2, hok2⟩ := h2
  subst e2
  refine lv_if_eq (tgt := 31) hx hb d_M_put_5 (by decide) (fun c5 => ?_) (fun c5 => ?_)
  · have c5 : b2 = 0 := (nI_eq (by omega) (by omega)).mp (c5.trans nI_0.symm)
    refine lv_iconst (v := -1) hx hb d_M_put_31 (by decide) ?_
    have eF : (fPut nT a x kx k vk vn) = (-1, a) := ifc_neg (fun h => absurd (hok2.mpr h.1) (by omega))
    have eg : mF gm (aN ((fPut nT a x kx k vk vn).2)) = gm := by rw [eF]; exact mF_same hgm hn4 hnL
    have hP : va_P (dC, dI) classes [(mo, .inr (3, [.ref m1, .ref m2, .ref m3, .ref m4, .ref m5, .ref m6, .ref m7, .int (nI (aN (fPut nT a x kx k vk vn).2)), .ref m8, .ref m9, .ref m10, .ref m11, .int (nI nT), .int (nI ck), .long cn])), (m1, .inl (cB, md_L (mF gm (aN ((fPut nT a x kx k vk vn).2))), .inl (nf kk))), (m2, .inl (cL, md_L (mF gm (aN ((fPut nT a x kx k vk vn).2))), .inr (.inl ky))), (m3, .inl (cB, md_L (mF gm (aN ((fPut nT a x kx k vk vn).2))), .inl (nf kd))), (m4, .inl (cL, md_L (mF gm (aN ((fPut nT a x kx k vk vn).2))), .inr (.inl nu))), (m5, .inl (cI, md_L (mF gm (aN ((fPut nT a x kx k vk vn).2))), .inl (nf tb))), (m6, .inl (cI, md_L (mF gm (aN ((fPut nT a x kx k vk vn).2))), .inl (nf nx))), (m7, .inl (cI, md_L (mF gm (aN ((fPut nT a x kx k vk vn).2))), .inl (nf ot))), (m8, .inl (cI, 8191, .inl (nf ch))), (m9, .inl (cI, md_R gt, .inl (nf fi))), (m10, .inl (cI, md_R gt, .inl (nf la))), (m11, .inl (cI, md_R gt, .inl (nf sz)))] s.heap := by rw [eg, eF]; exact hP
    have hD : va_D A [(mo, .inr (3, [.ref m1, .ref m2, .ref m3, .ref m4, .ref m5, .ref m6, .ref m7, .int (nI (aN (fPut nT a x kx k vk vn).2)), .ref m8, .ref m9, .ref m10, .ref m11, .int (nI nT), .int (nI ck), .long cn])), (m1, .inl (cB, md_L (mF gm (aN ((fPut nT a x kx k vk vn).2))), .inl (nf kk))), (m2, .inl (cL, md_L (mF gm (aN ((fPut nT a x kx k vk vn).2))), .inr (.inl ky))), (m3, .inl (cB, md_L (mF gm (aN ((fPut nT a x kx k vk vn).2))), .inl (nf kd))), (m4, .inl (cL, md_L (mF gm (aN ((fPut nT a x kx k vk vn).2))), .inr (.inl nu))), (m5, .inl (cI, md_L (mF gm (aN ((fPut nT a x kx k vk vn).2))), .inl (nf tb))), (m6, .inl (cI, md_L (mF gm (aN ((fPut nT a x kx k vk vn).2))), .inl (nf nx))), (m7, .inl (cI, md_L (mF gm (aN ((fPut nT a x kx k vk vn).2))), .inl (nf ot))), (m8, .inl (cI, 8191, .inl (nf ch))), (m9, .inl (cI, md_R gt, .inl (nf fi))), (m10, .inl (cI, md_R gt, .inl (nf la))), (m11, .inl (cI, md_R gt, .inl (nf sz)))] := by rw [eg, eF]; exact hD
    refine W.widen (k := 7 * (mF gm (aN ((fPut nT a x kx k vk vn).2)) - gm)) (n := Ms (mF gm (aN ((fPut nT a x kx k vk vn).2))) - Ms gm) (by omega) (by omega) ?_
    have hpost : (-1) = (fPut nT a x kx k vk vn).1 ∧ MI nT ((fPut nT a x kx k vk vn).2) (mF gm (aN ((fPut nT a x kx k vk vn).2))) gt kk ky kd nu tb nx ot ch fi la sz := ⟨by rw [eF], by rw [eg, eF]; exact hMI⟩
    exact hret (-1) (m1, m2, m3, m4, m5, m6, m7, kk, ky, kd, nu, tb, nx, ot, ch, fi, la, sz) _ _ 32 ls hpost hP hD hS d_M_put_32
  · have c5 : ¬ b2 = 0 := fun h => c5 (((nI_eq (by omega) (by omega)).mpr h).trans nI_0)
    refine lv_iload_n hx hb d_M_put_8 rfl (lv_at hl 2 rfl) ?_
    refine lv_iconst (v := nI 1) hx hb d_M_put_9 (by decide) ?_
    refine lv_icmp_lt (tgt := 31) hx hb d_M_put_10 (by decide) (fun c10 => ?_) (fun c10 => ?_)
    · refine lv_iconst (v := -1) hx hb d_M_put_31 (by decide) ?_
      have eF : (fPut nT a x kx k vk vn) = (-1, a) := ifc_neg (fun h => okT_lt (by omega) c10 h.2.1)
      have eg : mF gm (aN ((fPut nT a x kx k vk vn).2)) = gm := by rw [eF]; exact mF_same hgm hn4 hnL
      have hP : va_P (dC, dI) classes [(mo, .inr (3, [.ref m1, .ref m2, .ref m3, .ref m4, .ref m5, .ref m6, .ref m7, .int (nI (aN (fPut nT a x kx k vk vn).2)), .ref m8, .ref m9, .ref m10, .ref m11, .int (nI nT), .int (nI ck), .long cn])), (m1, .inl (cB, md_L (mF gm (aN ((fPut nT a x kx k vk vn).2))), .inl (nf kk))), (m2, .inl (cL, md_L (mF gm (aN ((fPut nT a x kx k vk vn).2))), .inr (.inl ky))), (m3, .inl (cB, md_L (mF gm (aN ((fPut nT a x kx k vk vn).2))), .inl (nf kd))), (m4, .inl (cL, md_L (mF gm (aN ((fPut nT a x kx k vk vn).2))), .inr (.inl nu))), (m5, .inl (cI, md_L (mF gm (aN ((fPut nT a x kx k vk vn).2))), .inl (nf tb))), (m6, .inl (cI, md_L (mF gm (aN ((fPut nT a x kx k vk vn).2))), .inl (nf nx))), (m7, .inl (cI, md_L (mF gm (aN ((fPut nT a x kx k vk vn).2))), .inl (nf ot))), (m8, .inl (cI, 8191, .inl (nf ch))), (m9, .inl (cI, md_R gt, .inl (nf fi))), (m10, .inl (cI, md_R gt, .inl (nf la))), (m11, .inl (cI, md_R gt, .inl (nf sz)))] s.heap := by rw [eg, eF]; exact hP
      have hD : va_D A [(mo, .inr (3, [.ref m1, .ref m2, .ref m3, .ref m4, .ref m5, .ref m6, .ref m7, .int (nI (aN (fPut nT a x kx k vk vn).2)), .ref m8, .ref m9, .ref m10, .ref m11, .int (nI nT), .int (nI ck), .long cn])), (m1, .inl (cB, md_L (mF gm (aN ((fPut nT a x kx k vk vn).2))), .inl (nf kk))), (m2, .inl (cL, md_L (mF gm (aN ((fPut nT a x kx k vk vn).2))), .inr (.inl ky))), (m3, .inl (cB, md_L (mF gm (aN ((fPut nT a x kx k vk vn).2))), .inl (nf kd))), (m4, .inl (cL, md_L (mF gm (aN ((fPut nT a x kx k vk vn).2))), .inr (.inl nu))), (m5, .inl (cI, md_L (mF gm (aN ((fPut nT a x kx k vk vn).2))), .inl (nf tb))), (m6, .inl (cI, md_L (mF gm (aN ((fPut nT a x kx k vk vn).2))), .inl (nf nx))), (m7, .inl (cI, md_L (mF gm (aN ((fPut nT a x kx k vk vn).2))), .inl (nf ot))), (m8, .inl (cI, 8191, .inl (nf ch))), (m9, .inl (cI, md_R gt, .inl (nf fi))), (m10, .inl (cI, md_R gt, .inl (nf la))), (m11, .inl (cI, md_R gt, .inl (nf sz)))] := by rw [eg, eF]; exact hD
      refine W.widen (k := 7 * (mF gm (aN ((fPut nT a x kx k vk vn).2)) - gm)) (n := Ms (mF gm (aN ((fPut nT a x kx k vk vn).2))) - Ms gm) (by omega) (by omega) ?_
      have hpost : (-1) = (fPut nT a x kx k vk vn).1 ∧ MI nT ((fPut nT a x kx k vk vn).2) (mF gm (aN ((fPut nT a x kx k vk vn).2))) gt kk ky kd nu tb nx ot ch fi la sz := ⟨by rw [eF], by rw [eg, eF]; exact hMI⟩
      exact hret (-1) (m1, m2, m3, m4, m5, m6, m7, kk, ky, kd, nu, tb, nx, ot, ch, fi, la, sz) _ _ 32 ls hpost hP hD hS d_M_put_32
    · refine lv_iload_n hx hb d_M_put_13 rfl (lv_at hl 2 rfl) ?_
      refine lv_bipush (v := nI 7) hx hb d_M_put_14 (by decide) ?_
      refine lv_icmp_gt (tgt := 31) hx hb d_M_put_16 (by decide) (fun c16 => ?_) (fun c16 => ?_)
      · refine lv_iconst (v := -1) hx hb d_M_put_31 (by decide) ?_
        have eF : (fPut nT a x kx k vk vn) = (-1, a) := ifc_neg (fun h => okT_gt (by omega) c16 h.2.1)
        have eg : mF gm (aN ((fPut nT a x kx k vk vn).2)) = gm := by rw [eF]; exact mF_same hgm hn4 hnL
        have hP : va_P (dC, dI) classes [(mo, .inr (3, [.ref m1, .ref m2, .ref m3, .ref m4, .ref m5, .ref m6, .ref m7, .int (nI (aN (fPut nT a x kx k vk vn).2)), .ref m8, .ref m9, .ref m10, .ref m11, .int (nI nT), .int (nI ck), .long cn])), (m1, .inl (cB, md_L (mF gm (aN ((fPut nT a x kx k vk vn).2))), .inl (nf kk))), (m2, .inl (cL, md_L (mF gm (aN ((fPut nT a x kx k vk vn).2))), .inr (.inl ky))), (m3, .inl (cB, md_L (mF gm (aN ((fPut nT a x kx k vk vn).2))), .inl (nf kd))), (m4, .inl (cL, md_L (mF gm (aN ((fPut nT a x kx k vk vn).2))), .inr (.inl nu))), (m5, .inl (cI, md_L (mF gm (aN ((fPut nT a x kx k vk vn).2))), .inl (nf tb))), (m6, .inl (cI, md_L (mF gm (aN ((fPut nT a x kx k vk vn).2))), .inl (nf nx))), (m7, .inl (cI, md_L (mF gm (aN ((fPut nT a x kx k vk vn).2))), .inl (nf ot))), (m8, .inl (cI, 8191, .inl (nf ch))), (m9, .inl (cI, md_R gt, .inl (nf fi))), (m10, .inl (cI, md_R gt, .inl (nf la))), (m11, .inl (cI, md_R gt, .inl (nf sz)))] s.heap := by rw [eg, eF]; exact hP
        have hD : va_D A [(mo, .inr (3, [.ref m1, .ref m2, .ref m3, .ref m4, .ref m5, .ref m6, .ref m7, .int (nI (aN (fPut nT a x kx k vk vn).2)), .ref m8, .ref m9, .ref m10, .ref m11, .int (nI nT), .int (nI ck), .long cn])), (m1, .inl (cB, md_L (mF gm (aN ((fPut nT a x kx k vk vn).2))), .inl (nf kk))), (m2, .inl (cL, md_L (mF gm (aN ((fPut nT a x kx k vk vn).2))), .inr (.inl ky))), (m3, .inl (cB, md_L (mF gm (aN ((fPut nT a x kx k vk vn).2))), .inl (nf kd))), (m4, .inl (cL, md_L (mF gm (aN ((fPut nT a x kx k vk vn).2))), .inr (.inl nu))), (m5, .inl (cI, md_L (mF gm (aN ((fPut nT a x kx k vk vn).2))), .inl (nf tb))), (m6, .inl (cI, md_L (mF gm (aN ((fPut nT a x kx k vk vn).2))), .inl (nf nx))), (m7, .inl (cI, md_L (mF gm (aN ((fPut nT a x kx k vk vn).2))), .inl (nf ot))), (m8, .inl (cI, 8191, .inl (nf ch))), (m9, .inl (cI, md_R gt, .inl (nf fi))), (m10, .inl (cI, md_R gt, .inl (nf la))), (m11, .inl (cI, md_R gt, .inl (nf sz)))] := by rw [eg, eF]; exact hD
        refine W.widen (k := 7 * (mF gm (aN ((fPut nT a x kx k vk vn).2)) - gm)) (n := Ms (mF gm (aN ((fPut nT a x kx k vk vn).2))) - Ms gm) (by omega) (by omega) ?_
        have hpost : (-1) = (fPut nT a x kx k vk vn).1 ∧ MI nT ((fPut nT a x kx k vk vn).2) (mF gm (aN ((fPut nT a x kx k vk vn).2))) gt kk ky kd nu tb nx ot ch fi la sz := ⟨by rw [eF], by rw [eg, eF]; exact hMI⟩
        exact hret (-1) (m1, m2, m3, m4, m5, m6, m7, kk, ky, kd, nu, tb, nx, ot, ch, fi, la, sz) _ _ 32 ls hpost hP hD hS d_M_put_32
      · refine lv_iload hx hb d_M_put_19 (lv_at hl 4 rfl) ?_
        refine lv_if_lt (tgt := 31) hx hb d_M_put_21 (by decide) (fun c21 => ?_) (fun c21 => ?_)
        · refine lv_iconst (v := -1) hx hb d_M_put_31 (by decide) ?_
          have eF : (fPut nT a x kx k vk vn) = (-1, a) := ifc_neg (fun h => okV_lt c21 h.2.2)
          have eg : mF gm (aN ((fPut nT a x kx k vk vn).2)) = gm := by rw [eF]; exact mF_same hgm hn4 hnL
          have hP : va_P (dC, dI) classes [(mo, .inr (3, [.ref m1, .ref m2, .ref m3, .ref m4, .ref m5, .ref m6, .ref m7, .int (nI (aN (fPut nT a x kx k vk vn).2)), .ref m8, .ref m9, .ref m10, .ref m11, .int (nI nT), .int (nI ck), .long cn])), (m1, .inl (cB, md_L (mF gm (aN ((fPut nT a x kx k vk vn).2))), .inl (nf kk))), (m2, .inl (cL, md_L (mF gm (aN ((fPut nT a x kx k vk vn).2))), .inr (.inl ky))), (m3, .inl (cB, md_L (mF gm (aN ((fPut nT a x kx k vk vn).2))), .inl (nf kd))), (m4, .inl (cL, md_L (mF gm (aN ((fPut nT a x kx k vk vn).2))), .inr (.inl nu))), (m5, .inl (cI, md_L (mF gm (aN ((fPut nT a x kx k vk vn).2))), .inl (nf tb))), (m6, .inl (cI, md_L (mF gm (aN ((fPut nT a x kx k vk vn).2))), .inl (nf nx))), (m7, .inl (cI, md_L (mF gm (aN ((fPut nT a x kx k vk vn).2))), .inl (nf ot))), (m8, .inl (cI, 8191, .inl (nf ch))), (m9, .inl (cI, md_R gt, .inl (nf fi))), (m10, .inl (cI, md_R gt, .inl (nf la))), (m11, .inl (cI, md_R gt, .inl (nf sz)))] s.heap := by rw [eg, eF]; exact hP
          have hD : va_D A [(mo, .inr (3, [.ref m1, .ref m2, .ref m3, .ref m4, .ref m5, .ref m6, .ref m7, .int (nI (aN (fPut nT a x kx k vk vn).2)), .ref m8, .ref m9, .ref m10, .ref m11, .int (nI nT), .int (nI ck), .long cn])), (m1, .inl (cB, md_L (mF gm (aN ((fPut nT a x kx k vk vn).2))), .inl (nf kk))), (m2, .inl (cL, md_L (mF gm (aN ((fPut nT a x kx k vk vn).2))), .inr (.inl ky))), (m3, .inl (cB, md_L (mF gm (aN ((fPut nT a x kx k vk vn).2))), .inl (nf kd))), (m4, .inl (cL, md_L (mF gm (aN ((fPut nT a x kx k vk vn).2))), .inr (.inl nu))), (m5, .inl (cI, md_L (mF gm (aN ((fPut nT a x kx k vk vn).2))), .inl (nf tb))), (m6, .inl (cI, md_L (mF gm (aN ((fPut nT a x kx k vk vn).2))), .inl (nf nx))), (m7, .inl (cI, md_L (mF gm (aN ((fPut nT a x kx k vk vn).2))), .inl (nf ot))), (m8, .inl (cI, 8191, .inl (nf ch))), (m9, .inl (cI, md_R gt, .inl (nf fi))), (m10, .inl (cI, md_R gt, .inl (nf la))), (m11, .inl (cI, md_R gt, .inl (nf sz)))] := by rw [eg, eF]; exact hD
          refine W.widen (k := 7 * (mF gm (aN ((fPut nT a x kx k vk vn).2)) - gm)) (n := Ms (mF gm (aN ((fPut nT a x kx k vk vn).2))) - Ms gm) (by omega) (by omega) ?_
          have hpost : (-1) = (fPut nT a x kx k vk vn).1 ∧ MI nT ((fPut nT a x kx k vk vn).2) (mF gm (aN ((fPut nT a x kx k vk vn).2))) gt kk ky kd nu tb nx ot ch fi la sz := ⟨by rw [eF], by rw [eg, eF]; exact hMI⟩
          exact hret (-1) (m1, m2, m3, m4, m5, m6, m7, kk, ky, kd, nu, tb, nx, ot, ch, fi, la, sz) _ _ 32 ls hpost hP hD hS d_M_put_32
        · refine lv_iload hx hb d_M_put_24 (lv_at hl 4 rfl) ?_
          refine lv_bipush (v := nI 7) hx hb d_M_put_26 (by decide) ?_
          refine lv_icmp_le (tgt := 33) hx hb d_M_put_28 (by decide) (fun c28 => ?_) (fun c28 => ?_)
          · obtain ⟨t, ht1, ht2, ext⟩ := hok2.mp (by omega)
            rw [ext] at hl
            obtain ⟨j, hj1, hj2, exj⟩ := okT_of (by omega) c10 c16
            rw [exj] at hl
            obtain ⟨d, hd2, exd⟩ := okV_of c21 (Int32.not_lt.mpr c28)
            rw [exd] at hl
            have eG : (fPut nT a x kx k vk vn) = fPutG a (t * 8 + j) k d vn := (by unfold fPut; rw [ifc_pos ⟨hok2.mp (by omega), okT_of (by omega) c10 c16, okV_of c21 (Int32.not_lt.mpr c28)⟩, ext, exj, exd, tN_nI (by omega), tN_nI (by omega), tN_nI (by omega)])
            refine lv_iload hx hb d_M_put_33 (lv_at hl 4 rfl) ?_
            refine lv_if_eq (tgt := 60) hx hb d_M_put_35 (by decide) (fun c35 => ?_) (fun c35 => ?_)
            · have c35 : d = 0 := (nI_eq (by omega) (by omega)).mp (c35.trans nI_0.symm)
              refine lv_aload_n hx hb d_M_put_60 rfl (lv_at hl 0 rfl) ?_
              refine lv_iload_n hx hb d_M_put_61 rfl (lv_at hl 1 rfl) ?_
              refine lv_iload_n hx hb d_M_put_62 rfl (lv_at hl 2 rfl) ?_
              refine lv_lload_n hx hb d_M_put_63 rfl (lv_at hl 3 rfl) ?_
              refine lv_iload hx hb d_M_put_64 (lv_at hl 4 rfl) ?_
              refine lv_lload hx hb d_M_put_66 (lv_at hl 5 rfl) ?_
              have eF : (fPut nT a x kx k vk vn) = (nI (comeA a (t * 8 + j) k d), giveA a (t * 8 + j) k d vn) := eG.trans (if_neg (fun h => h.1 c35))
              refine StdI.callV (ci := 3) (q0 := 0) (wr := []) (m_give l dC dI cI cL cB mo m1 m2 m3 m4 m5 m6 m7 m8 m9 m10 m11 ck nT gm gt cn a kk ky kd nu tb nx ot ch fi la sz t j d k vn hMI (by omega) (by omega) (by omega) (by omega) (by omega) (by rw [c35, comeA_k0]; omega)) ⟨hx, hb, hml, hown, hw⟩ (fz_cwV 5 hw m_438 m_435 m_437 ms_21 m_4 rfl rfl (by decide +kernel) ⟨Nat.le_of_ble_eq_true rfl, Nat.le_of_ble_eq_true rfl⟩) hK hP hD hS hA [0, 1, 2, 3, 4, 5, 6, 7, 8, 9, 10, 11] [] rfl rfl (by decide) (by decide) (by decide) rfl rfl rfl rfl hl.1 rfl (Nat.le_of_ble_eq_true rfl) d_M_put_68 ⟨(by dsimp only; rw [eF]; dsimp only; omega), (by dsimp only; rw [eF]; dsimp only; omega)⟩ (fun r68 u68 H locs h68 hP hD hS => ?_)
              obtain ⟨u168, u268, u368, u468, u568, u668, u768, kk268, ky268, kd268, nu268, tb268, nx268, ot268, ch268, fi268, la268, sz268⟩ := u68
              try dsimp only at h68
              have hP : va_P (dC, dI) classes [(mo, .inr (3, [.ref u168, .ref u268, .ref u368, .ref u468, .ref u568, .ref u668, .ref u768, .int (nI (aN (giveA a (t * 8 + j) k d vn))), .ref m8, .ref m9, .ref m10, .ref m11, .int (nI nT), .int (nI ck), .long cn])), (u168, .inl (cB, md_L (mF gm (aN (giveA a (t * 8 + j) k d vn))), .inl (nf kk268))), (u268, .inl (cL, md_L (mF gm (aN (giveA a (t * 8 + j) k d vn))), .inr (.inl ky268))), (u368, .inl (cB, md_L (mF gm (aN (giveA a (t * 8 + j) k d vn))), .inl (nf kd268))), (u468, .inl (cL, md_L (mF gm (aN (giveA a (t * 8 + j) k d vn))), .inr (.inl nu268))), (u568, .inl (cI, md_L (mF gm (aN (giveA a (t * 8 + j) k d vn))), .inl (nf tb268))), (u668, .inl (cI, md_L (mF gm (aN (giveA a (t * 8 + j) k d vn))), .inl (nf nx268))), (u768, .inl (cI, md_L (mF gm (aN (giveA a (t * 8 + j) k d vn))), .inl (nf ot268))), (m8, .inl (cI, 8191, .inl (nf ch268))), (m9, .inl (cI, md_R gt, .inl (nf fi268))), (m10, .inl (cI, md_R gt, .inl (nf la268))), (m11, .inl (cI, md_R gt, .inl (nf sz268)))] H := hP
              have hD : va_D A [(mo, .inr (3, [.ref u168, .ref u268, .ref u368, .ref u468, .ref u568, .ref u668, .ref u768, .int (nI (aN (giveA a (t * 8 + j) k d vn))), .ref m8, .ref m9, .ref m10, .ref m11, .int (nI nT), .int (nI ck), .long cn])), (u168, .inl (cB, md_L (mF gm (aN (giveA a (t * 8 + j) k d vn))), .inl (nf kk268))), (u268, .inl (cL, md_L (mF gm (aN (giveA a (t * 8 + j) k d vn))), .inr (.inl ky268))), (u368, .inl (cB, md_L (mF gm (aN (giveA a (t * 8 + j) k d vn))), .inl (nf kd268))), (u468, .inl (cL, md_L (mF gm (aN (giveA a (t * 8 + j) k d vn))), .inr (.inl nu268))), (u568, .inl (cI, md_L (mF gm (aN (giveA a (t * 8 + j) k d vn))), .inl (nf tb268))), (u668, .inl (cI, md_L (mF gm (aN (giveA a (t * 8 + j) k d vn))), .inl (nf nx268))), (u768, .inl (cI, md_L (mF gm (aN (giveA a (t * 8 + j) k d vn))), .inl (nf ot268))), (m8, .inl (cI, 8191, .inl (nf ch268))), (m9, .inl (cI, md_R gt, .inl (nf fi268))), (m10, .inl (cI, md_R gt, .inl (nf la268))), (m11, .inl (cI, md_R gt, .inl (nf sz268)))] := hD
              refine W.widen (k := 7 * (mF gm (aN (giveA a (t * 8 + j) k d vn)) - gm)) (n := Ms (mF gm (aN (giveA a (t * 8 + j) k d vn))) - Ms gm) (by omega) (by omega) ?_
              have hP : va_P (dC, dI) classes [(mo, .inr (3, [.ref u168, .ref u268, .ref u368, .ref u468, .ref u568, .ref u668, .ref u768, .int (nI (aN (fPut nT a x kx k vk vn).2)), .ref m8, .ref m9, .ref m10, .ref m11, .int (nI nT), .int (nI ck), .long cn])), (u168, .inl (cB, md_L (mF gm (aN ((fPut nT a x kx k vk vn).2))), .inl (nf kk268))), (u268, .inl (cL, md_L (mF gm (aN ((fPut nT a x kx k vk vn).2))), .inr (.inl ky268))), (u368, .inl (cB, md_L (mF gm (aN ((fPut nT a x kx k vk vn).2))), .inl (nf kd268))), (u468, .inl (cL, md_L (mF gm (aN ((fPut nT a x kx k vk vn).2))), .inr (.inl nu268))), (u568, .inl (cI, md_L (mF gm (aN ((fPut nT a x kx k vk vn).2))), .inl (nf tb268))), (u668, .inl (cI, md_L (mF gm (aN ((fPut nT a x kx k vk vn).2))), .inl (nf nx268))), (u768, .inl (cI, md_L (mF gm (aN ((fPut nT a x kx k vk vn).2))), .inl (nf ot268))), (m8, .inl (cI, 8191, .inl (nf ch268))), (m9, .inl (cI, md_R gt, .inl (nf fi268))), (m10, .inl (cI, md_R gt, .inl (nf la268))), (m11, .inl (cI, md_R gt, .inl (nf sz268)))] H := by rw [eF]; exact hP
              have hD : va_D A [(mo, .inr (3, [.ref u168, .ref u268, .ref u368, .ref u468, .ref u568, .ref u668, .ref u768, .int (nI (aN (fPut nT a x kx k vk vn).2)), .ref m8, .ref m9, .ref m10, .ref m11, .int (nI nT), .int (nI ck), .long cn])), (u168, .inl (cB, md_L (mF gm (aN ((fPut nT a x kx k vk vn).2))), .inl (nf kk268))), (u268, .inl (cL, md_L (mF gm (aN ((fPut nT a x kx k vk vn).2))), .inr (.inl ky268))), (u368, .inl (cB, md_L (mF gm (aN ((fPut nT a x kx k vk vn).2))), .inl (nf kd268))), (u468, .inl (cL, md_L (mF gm (aN ((fPut nT a x kx k vk vn).2))), .inr (.inl nu268))), (u568, .inl (cI, md_L (mF gm (aN ((fPut nT a x kx k vk vn).2))), .inl (nf tb268))), (u668, .inl (cI, md_L (mF gm (aN ((fPut nT a x kx k vk vn).2))), .inl (nf nx268))), (u768, .inl (cI, md_L (mF gm (aN ((fPut nT a x kx k vk vn).2))), .inl (nf ot268))), (m8, .inl (cI, 8191, .inl (nf ch268))), (m9, .inl (cI, md_R gt, .inl (nf fi268))), (m10, .inl (cI, md_R gt, .inl (nf la268))), (m11, .inl (cI, md_R gt, .inl (nf sz268)))] := by rw [eF]; exact hD
              refine W.widen (k := 7 * (mF gm (aN ((fPut nT a x kx k vk vn).2)) - gm)) (n := Ms (mF gm (aN ((fPut nT a x kx k vk vn).2))) - Ms gm) (by rw [eF]; dsimp only; omega) (by rw [eF]; dsimp only; omega) ?_
              have hpost : r68 = (fPut nT a x kx k vk vn).1 ∧ MI nT ((fPut nT a x kx k vk vn).2) (mF gm (aN ((fPut nT a x kx k vk vn).2))) gt kk268 ky268 kd268 nu268 tb268 nx268 ot268 ch268 fi268 la268 sz268 := ⟨by rw [eF]; exact h68.1, by rw [eF]; exact h68.2⟩
              exact hret r68 (u168, u268, u368, u468, u568, u668, u768, kk268, ky268, kd268, nu268, tb268, nx268, ot268, ch268, fi268, la268, sz268) _ _ 71 ls hpost hP hD hS d_M_put_71
            · have c35 : ¬ d = 0 := fun h => c35 (((nI_eq (by omega) (by omega)).mpr h).trans nI_0)
              refine lv_aload_n hx hb d_M_put_38 rfl (lv_at hl 0 rfl) ?_
              refine va_get (D := (dC, dI)) (ci := 3) (v := .int (nI (aN a))) (C := R_M) (T := T_M) (N := 15) hx hb hw in_M hown hK hP 0 rfl rfl 7 (by decide) (hw _ m_368) (fun _ h9 => h9) rfl d_M_put_39 ?_
              refine lv_ldc (v := 40000) hx hb hown (hw _ m_423) d_M_put_42 ?_
              refine fz_eqi (y := nI 40000) (by decide) ?_
              refine lv_icmp_ne (tgt := 60) hx hb d_M_put_44 (by decide) (fun c44 => ?_) (fun c44 => ?_)
              · have c44 : ¬ aN a = 40000 := fun h => c44 (by exact (nI_eq (by omega) (by omega)).mpr h)
                refine lv_aload_n hx hb d_M_put_60 rfl (lv_at hl 0 rfl) ?_
                refine lv_iload_n hx hb d_M_put_61 rfl (lv_at hl 1 rfl) ?_
                refine lv_iload_n hx hb d_M_put_62 rfl (lv_at hl 2 rfl) ?_
                refine lv_lload_n hx hb d_M_put_63 rfl (lv_at hl 3 rfl) ?_
                refine lv_iload hx hb d_M_put_64 (lv_at hl 4 rfl) ?_
                refine lv_lload hx hb d_M_put_66 (lv_at hl 5 rfl) ?_
                have eF : (fPut nT a x kx k vk vn) = (nI (comeA a (t * 8 + j) k d), giveA a (t * 8 + j) k d vn) := eG.trans (if_neg (fun h => c44 h.2.1))
                refine StdI.callV (ci := 3) (q0 := 0) (wr := []) (m_give l dC dI cI cL cB mo m1 m2 m3 m4 m5 m6 m7 m8 m9 m10 m11 ck nT gm gt cn a kk ky kd nu tb nx ot ch fi la sz t j d k vn hMI (by omega) (by omega) (by omega) (by omega) (by omega) (by have := comeA_le a (t * 8 + j) k d; omega)) ⟨hx, hb, hml, hown, hw⟩ (fz_cwV 5 hw m_438 m_435 m_437 ms_21 m_4 rfl rfl (by decide +kernel) ⟨Nat.le_of_ble_eq_true rfl, Nat.le_of_ble_eq_true rfl⟩) hK hP hD hS hA [0, 1, 2, 3, 4, 5, 6, 7, 8, 9, 10, 11] [] rfl rfl (by decide) (by decide) (by decide) rfl rfl rfl rfl hl.1 rfl (Nat.le_of_ble_eq_true rfl) d_M_put_68 ⟨(by dsimp only; rw [eF]; dsimp only; omega), (by dsimp only; rw [eF]; dsimp only; omega)⟩ (fun r68 u68 H locs h68 hP hD hS => ?_)
                obtain ⟨u168, u268, u368, u468, u568, u668, u768, kk268, ky268, kd268, nu268, tb268, nx268, ot268, ch268, fi268, la268, sz268⟩ := u68
                try dsimp only at h68
                have hP : va_P (dC, dI) classes [(mo, .inr (3, [.ref u168, .ref u268, .ref u368, .ref u468, .ref u568, .ref u668, .ref u768, .int (nI (aN (giveA a (t * 8 + j) k d vn))), .ref m8, .ref m9, .ref m10, .ref m11, .int (nI nT), .int (nI ck), .long cn])), (u168, .inl (cB, md_L (mF gm (aN (giveA a (t * 8 + j) k d vn))), .inl (nf kk268))), (u268, .inl (cL, md_L (mF gm (aN (giveA a (t * 8 + j) k d vn))), .inr (.inl ky268))), (u368, .inl (cB, md_L (mF gm (aN (giveA a (t * 8 + j) k d vn))), .inl (nf kd268))), (u468, .inl (cL, md_L (mF gm (aN (giveA a (t * 8 + j) k d vn))), .inr (.inl nu268))), (u568, .inl (cI, md_L (mF gm (aN (giveA a (t * 8 + j) k d vn))), .inl (nf tb268))), (u668, .inl (cI, md_L (mF gm (aN (giveA a (t * 8 + j) k d vn))), .inl (nf nx268))), (u768, .inl (cI, md_L (mF gm (aN (giveA a (t * 8 + j) k d vn))), .inl (nf ot268))), (m8, .inl (cI, 8191, .inl (nf ch268))), (m9, .inl (cI, md_R gt, .inl (nf fi268))), (m10, .inl (cI, md_R gt, .inl (nf la268))), (m11, .inl (cI, md_R gt, .inl (nf sz268)))] H := hP
                have hD : va_D A [(mo, .inr (3, [.ref u168, .ref u268, .ref u368, .ref u468, .ref u568, .ref u668, .ref u768, .int (nI (aN (giveA a (t * 8 + j) k d vn))), .ref m8, .ref m9, .ref m10, .ref m11, .int (nI nT), .int (nI ck), .long cn])), (u168, .inl (cB, md_L (mF gm (aN (giveA a (t * 8 + j) k d vn))), .inl (nf kk268))), (u268, .inl (cL, md_L (mF gm (aN (giveA a (t * 8 + j) k d vn))), .inr (.inl ky268))), (u368, .inl (cB, md_L (mF gm (aN (giveA a (t * 8 + j) k d vn))), .inl (nf kd268))), (u468, .inl (cL, md_L (mF gm (aN (giveA a (t * 8 + j) k d vn))), .inr (.inl nu268))), (u568, .inl (cI, md_L (mF gm (aN (giveA a (t * 8 + j) k d vn))), .inl (nf tb268))), (u668, .inl (cI, md_L (mF gm (aN (giveA a (t * 8 + j) k d vn))), .inl (nf nx268))), (u768, .inl (cI, md_L (mF gm (aN (giveA a (t * 8 + j) k d vn))), .inl (nf ot268))), (m8, .inl (cI, 8191, .inl (nf ch268))), (m9, .inl (cI, md_R gt, .inl (nf fi268))), (m10, .inl (cI, md_R gt, .inl (nf la268))), (m11, .inl (cI, md_R gt, .inl (nf sz268)))] := hD
                refine W.widen (k := 7 * (mF gm (aN (giveA a (t * 8 + j) k d vn)) - gm)) (n := Ms (mF gm (aN (giveA a (t * 8 + j) k d vn))) - Ms gm) (by omega) (by omega) ?_
                have hP : va_P (dC, dI) classes [(mo, .inr (3, [.ref u168, .ref u268, .ref u368, .ref u468, .ref u568, .ref u668, .ref u768, .int (nI (aN (fPut nT a x kx k vk vn).2)), .ref m8, .ref m9, .ref m10, .ref m11, .int (nI nT), .int (nI ck), .long cn])), (u168, .inl (cB, md_L (mF gm (aN ((fPut nT a x kx k vk vn).2))), .inl (nf kk268))), (u268, .inl (cL, md_L (mF gm (aN ((fPut nT a x kx k vk vn).2))), .inr (.inl ky268))), (u368, .inl (cB, md_L (mF gm (aN ((fPut nT a x kx k vk vn).2))), .inl (nf kd268))), (u468, .inl (cL, md_L (mF gm (aN ((fPut nT a x kx k vk vn).2))), .inr (.inl nu268))), (u568, .inl (cI, md_L (mF gm (aN ((fPut nT a x kx k vk vn).2))), .inl (nf tb268))), (u668, .inl (cI, md_L (mF gm (aN ((fPut nT a x kx k vk vn).2))), .inl (nf nx268))), (u768, .inl (cI, md_L (mF gm (aN ((fPut nT a x kx k vk vn).2))), .inl (nf ot268))), (m8, .inl (cI, 8191, .inl (nf ch268))), (m9, .inl (cI, md_R gt, .inl (nf fi268))), (m10, .inl (cI, md_R gt, .inl (nf la268))), (m11, .inl (cI, md_R gt, .inl (nf sz268)))] H := by rw [eF]; exact hP
                have hD : va_D A [(mo, .inr (3, [.ref u168, .ref u268, .ref u368, .ref u468, .ref u568, .ref u668, .ref u768, .int (nI (aN (fPut nT a x kx k vk vn).2)), .ref m8, .ref m9, .ref m10, .ref m11, .int (nI nT), .int (nI ck), .long cn])), (u168, .inl (cB, md_L (mF gm (aN ((fPut nT a x kx k vk vn).2))), .inl (nf kk268))), (u268, .inl (cL, md_L (mF gm (aN ((fPut nT a x kx k vk vn).2))), .inr (.inl ky268))), (u368, .inl (cB, md_L (mF gm (aN ((fPut nT a x kx k vk vn).2))), .inl (nf kd268))), (u468, .inl (cL, md_L (mF gm (aN ((fPut nT a x kx k vk vn).2))), .inr (.inl nu268))), (u568, .inl (cI, md_L (mF gm (aN ((fPut nT a x kx k vk vn).2))), .inl (nf tb268))), (u668, .inl (cI, md_L (mF gm (aN ((fPut nT a x kx k vk vn).2))), .inl (nf nx268))), (u768, .inl (cI, md_L (mF gm (aN ((fPut nT a x kx k vk vn).2))), .inl (nf ot268))), (m8, .inl (cI, 8191, .inl (nf ch268))), (m9, .inl (cI, md_R gt, .inl (nf fi268))), (m10, .inl (cI, md_R gt, .inl (nf la268))), (m11, .inl (cI, md_R gt, .inl (nf sz268)))] := by rw [eF]; exact hD
                refine W.widen (k := 7 * (mF gm (aN ((fPut nT a x kx k vk vn).2)) - gm)) (n := Ms (mF gm (aN ((fPut nT a x kx k vk vn).2))) - Ms gm) (by rw [eF]; dsimp only; omega) (by rw [eF]; dsimp only; omega) ?_
                have hpost : r68 = (fPut nT a x kx k vk vn).1 ∧ MI nT ((fPut nT a x kx k vk vn).2) (mF gm (aN ((fPut nT a x kx k vk vn).2))) gt kk268 ky268 kd268 nu268 tb268 nx268 ot268 ch268 fi268 la268 sz268 := ⟨by rw [eF]; exact h68.1, by rw [eF]; exact h68.2⟩
                exact hret r68 (u168, u268, u368, u468, u568, u668, u768, kk268, ky268, kd268, nu268, tb268, nx268, ot268, ch268, fi268, la268, sz268) _ _ 71 ls hpost hP hD hS d_M_put_71
              · have c44 : aN a = 40000 := by exact (nI_eq (by omega) (by omega)).mp c44
                refine lv_aload_n hx hb d_M_put_47 rfl (lv_at hl 0 rfl) ?_
                refine lv_iload_n hx hb d_M_put_48 rfl (lv_at hl 1 rfl) ?_
                refine lv_iload_n hx hb d_M_put_49 rfl (lv_at hl 2 rfl) ?_
                refine lv_lload_n hx hb d_M_put_50 rfl (lv_at hl 3 rfl) ?_
                refine QryI.callV (ci := 3) (q0 := 0) (m_find l dC dI cI cL cB mo m1 m2 m3 m4 m5 m6 m7 m8 m9 m10 m11 ck nT gm gt cn a kk ky kd nu tb nx ot ch fi la sz t j k hMI (by omega) (by omega)) ⟨hx, hb, hml, hown, hw⟩ (fz_cwV 3 hw m_427 m_424 m_426 ms_20 m_4 rfl rfl (by decide +kernel) ⟨Nat.le_of_ble_eq_true rfl, Nat.le_of_ble_eq_true rfl⟩) hK hP [0, 1, 2, 3, 4, 5, 6, 7, 8, 9, 10, 11] rfl rfl rfl rfl rfl hl.1 rfl (Nat.le_of_ble_eq_true rfl) d_M_put_51 ⟨(by (try dsimp only); omega), (by (try dsimp only); omega)⟩ (fun r51 h51 => ?_)
                subst h51
                have hfl := aF_le a (t * 8 + j) k
                refine lv_if_ne (tgt := 60) hx hb d_M_put_54 (by decide) (fun c54 => ?_) (fun c54 => ?_)
                · have c54 : ¬ aF a (t * 8 + j) k = 0 := fun h => c54 (((nI_eq (by omega) (by omega)).mpr h).trans nI_0)
                  refine lv_aload_n hx hb d_M_put_60 rfl (lv_at hl 0 rfl) ?_
                  refine lv_iload_n hx hb d_M_put_61 rfl (lv_at hl 1 rfl) ?_
                  refine lv_iload_n hx hb d_M_put_62 rfl (lv_at hl 2 rfl) ?_
                  refine lv_lload_n hx hb d_M_put_63 rfl (lv_at hl 3 rfl) ?_
                  refine lv_iload hx hb d_M_put_64 (lv_at hl 4 rfl) ?_
                  refine lv_lload hx hb d_M_put_66 (lv_at hl 5 rfl) ?_
                  have eF : (fPut nT a x kx k vk vn) = (nI (comeA a (t * 8 + j) k d), giveA a (t * 8 + j) k d vn) := eG.trans (if_neg (fun h => c54 h.2.2))
                  refine StdI.callV (ci := 3) (q0 := 0) (wr := []) (m_give l dC dI cI cL cB mo m1 m2 m3 m4 m5 m6 m7 m8 m9 m10 m11 ck nT gm gt cn a kk ky kd nu tb nx ot ch fi la sz t j d k vn hMI (by omega) (by omega) (by omega) (by omega) (by omega) (by rw [comeA_0 c54]; omega)) ⟨hx, hb, hml, hown, hw⟩ (fz_cwV 5 hw m_438 m_435 m_437 ms_21 m_4 rfl rfl (by decide +kernel) ⟨Nat.le_of_ble_eq_true rfl, Nat.le_of_ble_eq_true rfl⟩) hK hP hD hS hA [0, 1, 2, 3, 4, 5, 6, 7, 8, 9, 10, 11] [] rfl rfl (by decide) (by decide) (by decide) rfl rfl rfl rfl hl.1 rfl (Nat.le_of_ble_eq_true rfl) d_M_put_68 ⟨(by dsimp only; rw [eF]; dsimp only; omega), (by dsimp only; rw [eF]; dsimp only; omega)⟩ (fun r68 u68 H locs h68 hP hD hS => ?_)
                  obtain ⟨u168, u268, u368, u468, u568, u668, u768, kk268, ky268, kd268, nu268, tb268, nx268, ot268, ch268, fi268, la268, sz268⟩ := u68
                  try dsimp only at h68
                  have hP : va_P (dC, dI) classes [(mo, .inr (3, [.ref u168, .ref u268, .ref u368, .ref u468, .ref u568, .ref u668, .ref u768, .int (nI (aN (giveA a (t * 8 + j) k d vn))), .ref m8, .ref m9, .ref m10, .ref m11, .int (nI nT), .int (nI ck), .long cn])), (u168, .inl (cB, md_L (mF gm (aN (giveA a (t * 8 + j) k d vn))), .inl (nf kk268))), (u268, .inl (cL, md_L (mF gm (aN (giveA a (t * 8 + j) k d vn))), .inr (.inl ky268))), (u368, .inl (cB, md_L (mF gm (aN (giveA a (t * 8 + j) k d vn))), .inl (nf kd268))), (u468, .inl (cL, md_L (mF gm (aN (giveA a (t * 8 + j) k d vn))), .inr (.inl nu268))), (u568, .inl (cI, md_L (mF gm (aN (giveA a (t * 8 + j) k d vn))), .inl (nf tb268))), (u668, .inl (cI, md_L (mF gm (aN (giveA a (t * 8 + j) k d vn))), .inl (nf nx268))), (u768, .inl (cI, md_L (mF gm (aN (giveA a (t * 8 + j) k d vn))), .inl (nf ot268))), (m8, .inl (cI, 8191, .inl (nf ch268))), (m9, .inl (cI, md_R gt, .inl (nf fi268))), (m10, .inl (cI, md_R gt, .inl (nf la268))), (m11, .inl (cI, md_R gt, .inl (nf sz268)))] H := hP
                  have hD : va_D A [(mo, .inr (3, [.ref u168, .ref u268, .ref u368, .ref u468, .ref u568, .ref u668, .ref u768, .int (nI (aN (giveA a (t * 8 + j) k d vn))), .ref m8, .ref m9, .ref m10, .ref m11, .int (nI nT), .int (nI ck), .long cn])), (u168, .inl (cB, md_L (mF gm (aN (giveA a (t * 8 + j) k d vn))), .inl (nf kk268))), (u268, .inl (cL, md_L (mF gm (aN (giveA a (t * 8 + j) k d vn))), .inr (.inl ky268))), (u368, .inl (cB, md_L (mF gm (aN (giveA a (t * 8 + j) k d vn))), .inl (nf kd268))), (u468, .inl (cL, md_L (mF gm (aN (giveA a (t * 8 + j) k d vn))), .inr (.inl nu268))), (u568, .inl (cI, md_L (mF gm (aN (giveA a (t * 8 + j) k d vn))), .inl (nf tb268))), (u668, .inl (cI, md_L (mF gm (aN (giveA a (t * 8 + j) k d vn))), .inl (nf nx268))), (u768, .inl (cI, md_L (mF gm (aN (giveA a (t * 8 + j) k d vn))), .inl (nf ot268))), (m8, .inl (cI, 8191, .inl (nf ch268))), (m9, .inl (cI, md_R gt, .inl (nf fi268))), (m10, .inl (cI, md_R gt, .inl (nf la268))), (m11, .inl (cI, md_R gt, .inl (nf sz268)))] := hD
                  refine W.widen (k := 7 * (mF gm (aN (giveA a (t * 8 + j) k d vn)) - gm)) (n := Ms (mF gm (aN (giveA a (t * 8 + j) k d vn))) - Ms gm) (by omega) (by omega) ?_
                  have hP : va_P (dC, dI) classes [(mo, .inr (3, [.ref u168, .ref u268, .ref u368, .ref u468, .ref u568, .ref u668, .ref u768, .int (nI (aN (fPut nT a x kx k vk vn).2)), .ref m8, .ref m9, .ref m10, .ref m11, .int (nI nT), .int (nI ck), .long cn])), (u168, .inl (cB, md_L (mF gm (aN ((fPut nT a x kx k vk vn).2))), .inl (nf kk268))), (u268, .inl (cL, md_L (mF gm (aN ((fPut nT a x kx k vk vn).2))), .inr (.inl ky268))), (u368, .inl (cB, md_L (mF gm (aN ((fPut nT a x kx k vk vn).2))), .inl (nf kd268))), (u468, .inl (cL, md_L (mF gm (aN ((fPut nT a x kx k vk vn).2))), .inr (.inl nu268))), (u568, .inl (cI, md_L (mF gm (aN ((fPut nT a x kx k vk vn).2))), .inl (nf tb268))), (u668, .inl (cI, md_L (mF gm (aN ((fPut nT a x kx k vk vn).2))), .inl (nf nx268))), (u768, .inl (cI, md_L (mF gm (aN ((fPut nT a x kx k vk vn).2))), .inl (nf ot268))), (m8, .inl (cI, 8191, .inl (nf ch268))), (m9, .inl (cI, md_R gt, .inl (nf fi268))), (m10, .inl (cI, md_R gt, .inl (nf la268))), (m11, .inl (cI, md_R gt, .inl (nf sz268)))] H := by rw [eF]; exact hP
                  have hD : va_D A [(mo, .inr (3, [.ref u168, .ref u268, .ref u368, .ref u468, .ref u568, .ref u668, .ref u768, .int (nI (aN (fPut nT a x kx k vk vn).2)), .ref m8, .ref m9, .ref m10, .ref m11, .int (nI nT), .int (nI ck), .long cn])), (u168, .inl (cB, md_L (mF gm (aN ((fPut nT a x kx k vk vn).2))), .inl (nf kk268))), (u268, .inl (cL, md_L (mF gm (aN ((fPut nT a x kx k vk vn).2))), .inr (.inl ky268))), (u368, .inl (cB, md_L (mF gm (aN ((fPut nT a x kx k vk vn).2))), .inl (nf kd268))), (u468, .inl (cL, md_L (mF gm (aN ((fPut nT a x kx k vk vn).2))), .inr (.inl nu268))), (u568, .inl (cI, md_L (mF gm (aN ((fPut nT a x kx k vk vn).2))), .inl (nf tb268))), (u668, .inl (cI, md_L (mF gm (aN ((fPut nT a x kx k vk vn).2))), .inl (nf nx268))), (u768, .inl (cI, md_L (mF gm (aN ((fPut nT a x kx k vk vn).2))), .inl (nf ot268))), (m8, .inl (cI, 8191, .inl (nf ch268))), (m9, .inl (cI, md_R gt, .inl (nf fi268))), (m10, .inl (cI, md_R gt, .inl (nf la268))), (m11, .inl (cI, md_R gt, .inl (nf sz268)))] := by rw [eF]; exact hD
                  refine W.widen (k := 7 * (mF gm (aN ((fPut nT a x kx k vk vn).2)) - gm)) (n := Ms (mF gm (aN ((fPut nT a x kx k vk vn).2))) - Ms gm) (by rw [eF]; dsimp only; omega) (by rw [eF]; dsimp only; omega) ?_
                  have hpost : r68 = (fPut nT a x kx k vk vn).1 ∧ MI nT ((fPut nT a x kx k vk vn).2) (mF gm (aN ((fPut nT a x kx k vk vn).2))) gt kk268 ky268 kd268 nu268 tb268 nx268 ot268 ch268 fi268 la268 sz268 := ⟨by rw [eF]; exact h68.1, by rw [eF]; exact h68.2⟩
                  exact hret r68 (u168, u268, u368, u468, u568, u668, u768, kk268, ky268, kd268, nu268, tb268, nx268, ot268, ch268, fi268, la268, sz268) _ _ 71 ls hpost hP hD hS d_M_put_71
                · have c54 : aF a (t * 8 + j) k = 0 := (nI_eq (by omega) (by omega)).mp (c54.trans nI_0.symm)
                  refine lv_bipush (v := -3) hx hb d_M_put_57 (by decide) ?_
                  have eF : (fPut nT a x kx k vk vn) = (-3, a) := eG.trans (if_pos ⟨c35, c44, c54⟩)
                  have eg : mF gm (aN ((fPut nT a x kx k vk vn).2)) = gm := by rw [eF]; exact mF_same hgm hn4 hnL
                  have hP : va_P (dC, dI) classes [(mo, .inr (3, [.ref m1, .ref m2, .ref m3, .ref m4, .ref m5, .ref m6, .ref m7, .int (nI (aN (fPut nT a x kx k vk vn).2)), .ref m8, .ref m9, .ref m10, .ref m11, .int (nI nT), .int (nI ck), .long cn])), (m1, .inl (cB, md_L (mF gm (aN ((fPut nT a x kx k vk vn).2))), .inl (nf kk))), (m2, .inl (cL, md_L (mF gm (aN ((fPut nT a x kx k vk vn).2))), .inr (.inl ky))), (m3, .inl (cB, md_L (mF gm (aN ((fPut nT a x kx k vk vn).2))), .inl (nf kd))), (m4, .inl (cL, md_L (mF gm (aN ((fPut nT a x kx k vk vn).2))), .inr (.inl nu))), (m5, .inl (cI, md_L (mF gm (aN ((fPut nT a x kx k vk vn).2))), .inl (nf tb))), (m6, .inl (cI, md_L (mF gm (aN ((fPut nT a x kx k vk vn).2))), .inl (nf nx))), (m7, .inl (cI, md_L (mF gm (aN ((fPut nT a x kx k vk vn).2))), .inl (nf ot))), (m8, .inl (cI, 8191, .inl (nf ch))), (m9, .inl (cI, md_R gt, .inl (nf fi))), (m10, .inl (cI, md_R gt, .inl (nf la))), (m11, .inl (cI, md_R gt, .inl (nf sz)))] s.heap := by rw [eg, eF]; exact hP
                  have hD : va_D A [(mo, .inr (3, [.ref m1, .ref m2, .ref m3, .ref m4, .ref m5, .ref m6, .ref m7, .int (nI (aN (fPut nT a x kx k vk vn).2)), .ref m8, .ref m9, .ref m10, .ref m11, .int (nI nT), .int (nI ck), .long cn])), (m1, .inl (cB, md_L (mF gm (aN ((fPut nT a x kx k vk vn).2))), .inl (nf kk))), (m2, .inl (cL, md_L (mF gm (aN ((fPut nT a x kx k vk vn).2))), .inr (.inl ky))), (m3, .inl (cB, md_L (mF gm (aN ((fPut nT a x kx k vk vn).2))), .inl (nf kd))), (m4, .inl (cL, md_L (mF gm (aN ((fPut nT a x kx k vk vn).2))), .inr (.inl nu))), (m5, .inl (cI, md_L (mF gm (aN ((fPut nT a x kx k vk vn).2))), .inl (nf tb))), (m6, .inl (cI, md_L (mF gm (aN ((fPut nT a x kx k vk vn).2))), .inl (nf nx))), (m7, .inl (cI, md_L (mF gm (aN ((fPut nT a x kx k vk vn).2))), .inl (nf ot))), (m8, .inl (cI, 8191, .inl (nf ch))), (m9, .inl (cI, md_R gt, .inl (nf fi))), (m10, .inl (cI, md_R gt, .inl (nf la))), (m11, .inl (cI, md_R gt, .inl (nf sz)))] := by rw [eg, eF]; exact hD
                  refine W.widen (k := 7 * (mF gm (aN ((fPut nT a x kx k vk vn).2)) - gm)) (n := Ms (mF gm (aN ((fPut nT a x kx k vk vn).2))) - Ms gm) (by omega) (by omega) ?_
                  have hpost : (-3) = (fPut nT a x kx k vk vn).1 ∧ MI nT ((fPut nT a x kx k vk vn).2) (mF gm (aN ((fPut nT a x kx k vk vn).2))) gt kk ky kd nu tb nx ot ch fi la sz := ⟨by rw [eF], by rw [eg, eF]; exact hMI⟩
                  exact hret (-3) (m1, m2, m3, m4, m5, m6, m7, kk, ky, kd, nu, tb, nx, ot, ch, fi, la, sz) _ _ 59 ls hpost hP hD hS d_M_put_59
          · refine lv_iconst (v := -1) hx hb d_M_put_31 (by decide) ?_
            have eF : (fPut nT a x kx k vk vn) = (-1, a) := ifc_neg (fun h => okV_nle c28 h.2.2)
            have eg : mF gm (aN ((fPut nT a x kx k vk vn).2)) = gm := by rw [eF]; exact mF_same hgm hn4 hnL
            have hP : va_P (dC, dI) classes [(mo, .inr (3, [.ref m1, .ref m2, .ref m3, .ref m4, .ref m5, .ref m6, .ref m7, .int (nI (aN (fPut nT a x kx k vk vn).2)), .ref m8, .ref m9, .ref m10, .ref m11, .int (nI nT), .int (nI ck), .long cn])), (m1, .inl (cB, md_L (mF gm (aN ((fPut nT a x kx k vk vn).2))), .inl (nf kk))), (m2, .inl (cL, md_L (mF gm (aN ((fPut nT a x kx k vk vn).2))), .inr (.inl ky))), (m3, .inl (cB, md_L (mF gm (aN ((fPut nT a x kx k vk vn).2))), .inl (nf kd))), (m4, .inl (cL, md_L (mF gm (aN ((fPut nT a x kx k vk vn).2))), .inr (.inl nu))), (m5, .inl (cI, md_L (mF gm (aN ((fPut nT a x kx k vk vn).2))), .inl (nf tb))), (m6, .inl (cI, md_L (mF gm (aN ((fPut nT a x kx k vk vn).2))), .inl (nf nx))), (m7, .inl (cI, md_L (mF gm (aN ((fPut nT a x kx k vk vn).2))), .inl (nf ot))), (m8, .inl (cI, 8191, .inl (nf ch))), (m9, .inl (cI, md_R gt, .inl (nf fi))), (m10, .inl (cI, md_R gt, .inl (nf la))), (m11, .inl (cI, md_R gt, .inl (nf sz)))] s.heap := by rw [eg, eF]; exact hP
            have hD : va_D A [(mo, .inr (3, [.ref m1, .ref m2, .ref m3, .ref m4, .ref m5, .ref m6, .ref m7, .int (nI (aN (fPut nT a x kx k vk vn).2)), .ref m8, .ref m9, .ref m10, .ref m11, .int (nI nT), .int (nI ck), .long cn])), (m1, .inl (cB, md_L (mF gm (aN ((fPut nT a x kx k vk vn).2))), .inl (nf kk))), (m2, .inl (cL, md_L (mF gm (aN ((fPut nT a x kx k vk vn).2))), .inr (.inl ky))), (m3, .inl (cB, md_L (mF gm (aN ((fPut nT a x kx k vk vn).2))), .inl (nf kd))), (m4, .inl (cL, md_L (mF gm (aN ((fPut nT a x kx k vk vn).2))), .inr (.inl nu))), (m5, .inl (cI, md_L (mF gm (aN ((fPut nT a x kx k vk vn).2))), .inl (nf tb))), (m6, .inl (cI, md_L (mF gm (aN ((fPut nT a x kx k vk vn).2))), .inl (nf nx))), (m7, .inl (cI, md_L (mF gm (aN ((fPut nT a x kx k vk vn).2))), .inl (nf ot))), (m8, .inl (cI, 8191, .inl (nf ch))), (m9, .inl (cI, md_R gt, .inl (nf fi))), (m10, .inl (cI, md_R gt, .inl (nf la))), (m11, .inl (cI, md_R gt, .inl (nf sz)))] := by rw [eg, eF]; exact hD
            refine W.widen (k := 7 * (mF gm (aN ((fPut nT a x kx k vk vn).2)) - gm)) (n := Ms (mF gm (aN ((fPut nT a x kx k vk vn).2))) - Ms gm) (by omega) (by omega) ?_
            have hpost : (-1) = (fPut nT a x kx k vk vn).1 ∧ MI nT ((fPut nT a x kx k vk vn).2) (mF gm (aN ((fPut nT a x kx k vk vn).2))) gt kk ky kd nu tb nx ot ch fi la sz := ⟨by rw [eF], by rw [eg, eF]; exact hMI⟩
            exact hret (-1) (m1, m2, m3, m4, m5, m6, m7, kk, ky, kd, nu, tb, nx, ot, ch, fi, la, sz) _ _ 32 ls hpost hP hD hS d_M_put_32
set_option maxHeartbeats 4000000 in
set_option maxRecDepth 100000 in
/-- next -/
theorem m_next (l : Launch) (dC : Nat → ClassId) (dI : Nat → Nat → Nat) (cI cL cB : ClassId) (mo : Nat) (m1 : Nat) (m2 : Nat) (m3 : Nat) (m4 : Nat) (m5 : Nat) (m6 : Nat) (m7 : Nat) (m8 : Nat) (m9 : Nat) (m10 : Nat) (m11 : Nat) (ck : Nat) (nT : Nat) (gm : Nat) (gt : Nat) (cn : Int64) (a : AS) (kk : Nat → Nat) (ky : Nat → Int64) (kd : Nat → Nat) (nu : Nat → Int64) (tb : Nat → Nat) (nx : Nat → Nat) (ot : Nat → Nat) (ch : Nat → Nat) (fi : Nat → Nat) (la : Nat → Nat) (sz : Nat → Nat) (x : Int32) (kx : Int32) (k : Int64) (hMI : MI nT a gm gt kk ky kd nu tb nx ot ch fi la sz) : StdI l y_M_next (wd y_M_next b_M_next 6 (some .int)) 2 50 0 0 (dC, dI) classes (tyK cI cL cB) [.ref mo, .int x, .int kx, .long k] [(mo, .inr (3, [.ref m1, .ref m2, .ref m3, .ref m4, .ref m5, .ref m6, .ref m7, .int (nI (aN a)), .ref m8, .ref m9, .ref m10, .ref m11, .int (nI nT), .int (nI ck), .long cn])), (m1, .inl (cB, md_L gm, .inl (nf kk))), (m2, .inl (cL, md_L gm, .inr (.inl ky))), (m3, .inl (cB, md_L gm, .inl (nf kd))), (m4, .inl (cL, md_L gm, .inr (.inl nu))), (m5, .inl (cI, md_L gm, .inl (nf tb))), (m6, .inl (cI, md_L gm, .inl (nf nx))), (m7, .inl (cI, md_L gm, .inl (nf ot))), (m8, .inl (cI, 8191, .inl (nf ch))), (m9, .inl (cI, md_R gt, .inl (nf fi))), (m10, .inl (cI, md_R gt, .inl (nf la))), (m11, .inl (cI, md_R gt, .inl (nf sz)))] (fun (r : Int32) (u : Nat × Int64) => (r, u.1, u.2) = (fNext nT a (ck, cn) x kx k)) (fun (u : Nat × Int64) => [(mo, .inr (3, [.ref m1, .ref m2, .ref m3, .ref m4, .ref m5, .ref m6, .ref m7, .int (nI (aN a)), .ref m8, .ref m9, .ref m10, .ref m11, .int (nI nT), .int (nI u.1), .long u.2])), (m1, .inl (cB, md_L gm, .inl (nf kk))), (m2, .inl (cL, md_L gm, .inr (.inl ky))), (m3, .inl (cB, md_L gm, .inl (nf kd))), (m4, .inl (cL, md_L gm, .inr (.inl nu))), (m5, .inl (cI, md_L gm, .inl (nf tb))), (m6, .inl (cI, md_L gm, .inl (nf nx))), (m7, .inl (cI, md_L gm, .inl (nf ot))), (m8, .inl (cI, 8191, .inl (nf ch))), (m9, .inl (cI, md_R gt, .inl (nf fi))), (m10, .inl (cI, md_R gt, .inl (nf la))), (m11, .inl (cI, md_R gt, .inl (nf sz)))]) := by
  obtain ⟨hMS, hMT, hgt, hRT⟩ := id hMI
  have hAI := hMS.1
  have hnT := hMS.2.1
  have hgm := hMS.2.2.1
  have hnL := hMS.2.2.2.1
  have hAg := hMS.2.2.2.2.1
  have hk8 := hMS.2.2.2.2.2.1
  have hd7 := hMS.2.2.2.2.2.2.1
  have hdz := hMS.2.2.2.2.2.2.2.1
  have hch := hMS.2.2.2.2.2.2.2.2.1
  have hot := hMS.2.2.2.2.2.2.2.2.2
  have hg1 := md_gen gm hgm
  have hg2 := md_gen gt hgt
  have hn4 := hAI.1
  refine StdI.mk (cc := b_M_next) (maxL := 6) (by decide) rfl (Nat.le_of_ble_eq_true rfl) ?_
  intro p e s m below meth c A Z ls hx hb hml hown hts hin hP hK hD hA hS hret hl
  have hown : s.vm.findClass R_M = some m.cls := hown
  have hw : ∀ x ∈ WALL, x.before _ s = true := fun x h => hts x (List.mem_cons_of_mem _ h)
  have hl : lv_has ls 6 [(0, .ref mo), (1, .int x), (2, .int kx), (3, .long k)] := hl
  refine lv_aload_n hx hb d_M_next_0 rfl (lv_at hl 0 rfl) ?_
  refine lv_iload_n hx hb d_M_next_1 rfl (lv_at hl 1 rfl) ?_
  refine QryI.callV (ci := 3) (q0 := 0) (m_isTable l dC dI cI cL cB mo m1 m2 m3 m4 m5 m6 m7 m8 m9 m10 m11 ck nT (aN a) cn x (by omega)) ⟨hx, hb, hml, hown, hw⟩ (fz_cwV 1 hw m_422 m_419 m_421 ms_19 m_4 rfl rfl (by decide +kernel) ⟨Nat.le_of_ble_eq_true rfl, Nat.le_of_ble_eq_true rfl⟩) hK hP [0] rfl rfl rfl rfl rfl hl.1 rfl (Nat.le_of_ble_eq_true rfl) d_M_next_2 ⟨(Nat.le_of_ble_eq_true rfl), (Nat.le_of_ble_eq_true rfl)⟩ (fun r2 h2 => ?_)
  obtain ⟨b2, hb2, e2, hok2⟩ := h2
  subst e2
  refine lv_if_eq (tgt := 18) hx hb d_M_next_5 (by decide) (fun c5 => ?_) (fun c5 => ?_)
  · have c5 : b2 = 0 := (nI_eq (by omega) (by omega)).mp (c5.trans nI_0.symm)
    refine lv_iconst (v := -1) hx hb d_M_next_18 (by decide) ?_
    have hpost : ((-1), ck, cn) = (fNext nT a (ck, cn) x kx k) := (ifc_neg (fun h => absurd (hok2.mpr h.1) (by omega))).symm
    exact hret (-1) (ck, cn) _ _ 19 ls hpost hP hD hS d_M_next_19
  · have c5 : ¬ b2 = 0 := fun h => c5 (((nI_eq (by omega) (by omega)).mpr h).trans nI_0)
    refine lv_iload_n hx hb d_M_next_8 rfl (lv_at hl 2 rfl) ?_
    refine lv_if_lt (tgt := 18) hx hb d_M_next_9 (by decide) (fun c9 => ?_) (fun c9 => ?_)
    · refine lv_iconst (v := -1) hx hb d_M_next_18 (by decide) ?_
      have hpost : ((-1), ck, cn) = (fNext nT a (ck, cn) x kx k) := (ifc_neg (fun h => okV_lt c9 h.2)).symm
      exact hret (-1) (ck, cn) _ _ 19 ls hpost hP hD hS d_M_next_19
    · refine lv_iload_n hx hb d_M_next_12 rfl (lv_at hl 2 rfl) ?_
      refine lv_bipush (v := nI 7) hx hb d_M_next_13 (by decide) ?_
      refine lv_icmp_le (tgt := 20) hx hb d_M_next_15 (by decide) (fun c15 => ?_) (fun c15 => ?_)
      · obtain ⟨t, ht1, ht2, ext⟩ := hok2.mp (by omega)
        rw [ext] at hl
        obtain ⟨d, hd2, exd⟩ := okV_of c9 (Int32.not_lt.mpr c15)
        rw [exd] at hl
        have eG : (fNext nT a (ck, cn) x kx k) = fNextG a (ck, cn) t d k := (by unfold fNext; rw [ifc_pos ⟨hok2.mp (by omega), okV_of c9 (Int32.not_lt.mpr c15)⟩, ext, exd, tN_nI (by omega), tN_nI (by omega)])
        refine lv_iload_n hx hb d_M_next_20 rfl (lv_at hl 2 rfl) ?_
        refine lv_if_ne (tgt := 28) hx hb d_M_next_21 (by decide) (fun c21 => ?_) (fun c21 => ?_)
        · have c21 : ¬ d = 0 := fun h => c21 (((nI_eq (by omega) (by omega)).mpr h).trans nI_0)
          refine lv_aload_n hx hb d_M_next_28 rfl (lv_at hl 0 rfl) ?_
          refine lv_iload_n hx hb d_M_next_29 rfl (lv_at hl 1 rfl) ?_
          refine lv_iload_n hx hb d_M_next_30 rfl (lv_at hl 2 rfl) ?_
          refine lv_lload_n hx hb d_M_next_31 rfl (lv_at hl 3 rfl) ?_
          refine QryI.callV (ci := 3) (q0 := 0) (m_find l dC dI cI cL cB mo m1 m2 m3 m4 m5 m6 m7 m8 m9 m10 m11 ck nT gm gt cn a kk ky kd nu tb nx ot ch fi la sz t d k hMI (by omega) (by omega)) ⟨hx, hb, hml, hown, hw⟩ (fz_cwV 3 hw m_427 m_424 m_426 ms_20 m_4 rfl rfl (by decide +kernel) ⟨Nat.le_of_ble_eq_true rfl, Nat.le_of_ble_eq_true rfl⟩) hK hP [0, 1, 2, 3, 4, 5, 6, 7, 8, 9, 10, 11] rfl rfl rfl rfl rfl hl.1 rfl (Nat.le_of_ble_eq_true rfl) d_M_next_32 ⟨(Nat.le_of_ble_eq_true rfl), (Nat.le_of_ble_eq_true rfl)⟩ (fun r32 h32 => ?_)
          subst h32
          refine lv_istore (lv' := [(5, .int (nI (aF a (t * 8 + d) k))), (0, .ref mo), (1, .int (nI t)), (2, .int (nI d)), (3, .long k)]) hx hb d_M_next_35 hl (by decide) rfl (fun ls hl => ?_)
          refine lv_iload_n hx hb d_M_next_37 rfl (lv_at hl 3 rfl) ?_
          refine lv_if_le (tgt := 49) hx hb d_M_next_38 (by decide) (fun c38 => ?_) (fun c38 => ?_)
          · have c38 : d ≤ 0 := by rw [← nI_0] at c38; exact (nI_leI (by omega) (by omega)).mp c38
            exact absurd (by omega) c21
          · have c38 : ¬ d ≤ 0 := fun h => c38 (by rw [← nI_0]; exact (nI_leI (by omega) (by omega)).mpr h)
            refine lv_iload hx hb d_M_next_41 (lv_at hl 0 rfl) ?_
            have hfl0 := aF_le a (t * 8 + d) k
            refine lv_if_ne (tgt := 49) hx hb d_M_next_43 (by decide) (fun c43 => ?_) (fun c43 => ?_)
            · have c43 : ¬ aF a (t * 8 + d) k = 0 := fun h => c43 (((nI_eq (by omega) (by omega)).mpr h).trans nI_0)
              refine lv_iload_n hx hb d_M_next_49 rfl (lv_at hl 3 rfl) ?_
              refine lv_if_ne (tgt := 62) hx hb d_M_next_50 (by decide) (fun c50 => ?_) (fun c50 => ?_)
              · have c50 : ¬ d = 0 := fun h => c50 (((nI_eq (by omega) (by omega)).mpr h).trans nI_0)
                refine lv_aload_n hx hb d_M_next_62 rfl (lv_at hl 1 rfl) ?_
                refine va_get (D := (dC, dI)) (ci := 3) (v := .ref m6) (C := R_M) (T := T_M) (N := 15) hx hb hw in_M hown hK hP 0 rfl rfl 5 (by decide) (hw _ m_366) (fun _ h9 => h9) rfl d_M_next_63 ?_
                refine lv_iload hx hb d_M_next_66 (lv_at hl 0 rfl) ?_
                refine fz_iald hx hb hK hP 6 0 rfl rfl (j := aF a (t * 8 + d) k) (by omega) (by omega) d_M_next_68 ?_
                refine lv_istore (lv' := [(5, .int (nI (nx (aF a (t * 8 + d) k)))), (0, .ref mo), (1, .int (nI t)), (2, .int (nI d)), (3, .long k)]) hx hb d_M_next_69 hl (by decide) rfl (fun ls hl => ?_)
                have loop_71 : ∀ (fuel : Nat) (fld : Nat) (q : Nat), ch_N (aO a) t (aN a) q fld → q ≤ aN a → aF a (t * 8 + d) k ≤ q → noV a t (aF a (t * 8 + d) k) q → aN a - q < fuel → ∀ (H : Heap) (locs : List Loc), va_P (dC, dI) classes [(mo, .inr (3, [.ref m1, .ref m2, .ref m3, .ref m4, .ref m5, .ref m6, .ref m7, .int (nI (aN a)), .ref m8, .ref m9, .ref m10, .ref m11, .int (nI nT), .int (nI ck), .long cn])), (m1, .inl (cB, md_L gm, .inl (nf kk))), (m2, .inl (cL, md_L gm, .inr (.inl ky))), (m3, .inl (cB, md_L gm, .inl (nf kd))), (m4, .inl (cL, md_L gm, .inr (.inl nu))), (m5, .inl (cI, md_L gm, .inl (nf tb))), (m6, .inl (cI, md_L gm, .inl (nf nx))), (m7, .inl (cI, md_L gm, .inl (nf ot))), (m8, .inl (cI, 8191, .inl (nf ch))), (m9, .inl (cI, md_R gt, .inl (nf fi))), (m10, .inl (cI, md_R gt, .inl (nf la))), (m11, .inl (cI, md_R gt, .inl (nf sz)))] H → va_D A [(mo, .inr (3, [.ref m1, .ref m2, .ref m3, .ref m4, .ref m5, .ref m6, .ref m7, .int (nI (aN a)), .ref m8, .ref m9, .ref m10, .ref m11, .int (nI nT), .int (nI ck), .long cn])), (m1, .inl (cB, md_L gm, .inl (nf kk))), (m2, .inl (cL, md_L gm, .inr (.inl ky))), (m3, .inl (cB, md_L gm, .inl (nf kd))), (m4, .inl (cL, md_L gm, .inr (.inl nu))), (m5, .inl (cI, md_L gm, .inl (nf tb))), (m6, .inl (cI, md_L gm, .inl (nf nx))), (m7, .inl (cI, md_L gm, .inl (nf ot))), (m8, .inl (cI, 8191, .inl (nf ch))), (m9, .inl (cI, md_R gt, .inl (nf fi))), (m10, .inl (cI, md_R gt, .inl (nf la))), (m11, .inl (cI, md_R gt, .inl (nf sz)))] → va_S A s.heap H locs → ∀ (ls : Array Slot), lv_has ls 6 [(0, .ref mo), (1, .int (nI t)), (2, .int (nI d)), (3, .long k), (5, .int (nI fld))] → W p l e { frames := 2, cells := 0, slots := 0, locals := 50 } s m [.ref mo, .int x, .int kx, .long k].toArray below meth c H locs 0 0 Z (F0 m 71 ls []) := by
                  intro fuel
                  induction fuel with
                  | zero => intro fld q hfl hqn hqq hq hfuel; exact absurd hfuel (Nat.not_lt_zero _)
                  | succ fuel ih =>
                    intro fld q hfl hqn hqq hq hfuel H locs hP hD hS ls hl
                    have hfn := hfl.le
                    refine lv_iload hx hb d_M_next_71 (lv_at hl 4 rfl) ?_
                    refine lv_if_le (tgt := 98) hx hb d_M_next_73 (by decide) (fun c73 => ?_) (fun c73 => ?_)
                    · have c73 : fld ≤ 0 := by rw [← nI_0] at c73; exact (nI_leI (by omega) (by omega)).mp c73
                      refine lv_aload_n hx hb d_M_next_98 rfl (lv_at hl 0 rfl) ?_
                      refine lv_iload hx hb d_M_next_99 (lv_at hl 4 rfl) ?_
                      refine lv_if_le (tgt := 114) hx hb d_M_next_101 (by decide) (fun c101 => ?_) (fun c101 => ?_)
                      · have c101 : fld ≤ 0 := by rw [← nI_0] at c101; exact (nI_leI (by omega) (by omega)).mp c101
                        refine lv_iconst (v := nI 0) hx hb d_M_next_114 (by decide) ?_
                        refine va_put (D := (dC, dI)) (ci := 3) (v := .int (nI 0)) (ty := .int) (C := R_M) (T := T_M) (N := 15) hx hb hw in_M ty_M tyok_M nn_M hown hK hP hD hS 0 rfl rfl 13 (by decide) (hw _ m_374) (fun _ h9 => h9) rfl (by decide +kernel) rfl rfl (Nat.le_of_ble_eq_true rfl) d_M_next_115 (fun H locs hP hD hS => ?_)
                        have hP : va_P (dC, dI) classes [(mo, .inr (3, [.ref m1, .ref m2, .ref m3, .ref m4, .ref m5, .ref m6, .ref m7, .int (nI (aN a)), .ref m8, .ref m9, .ref m10, .ref m11, .int (nI nT), .int (nI 0), .long cn])), (m1, .inl (cB, md_L gm, .inl (nf kk))), (m2, .inl (cL, md_L gm, .inr (.inl ky))), (m3, .inl (cB, md_L gm, .inl (nf kd))), (m4, .inl (cL, md_L gm, .inr (.inl nu))), (m5, .inl (cI, md_L gm, .inl (nf tb))), (m6, .inl (cI, md_L gm, .inl (nf nx))), (m7, .inl (cI, md_L gm, .inl (nf ot))), (m8, .inl (cI, 8191, .inl (nf ch))), (m9, .inl (cI, md_R gt, .inl (nf fi))), (m10, .inl (cI, md_R gt, .inl (nf la))), (m11, .inl (cI, md_R gt, .inl (nf sz)))] H := hP
                        have hD : va_D A [(mo, .inr (3, [.ref m1, .ref m2, .ref m3, .ref m4, .ref m5, .ref m6, .ref m7, .int (nI (aN a)), .ref m8, .ref m9, .ref m10, .ref m11, .int (nI nT), .int (nI 0), .long cn])), (m1, .inl (cB, md_L gm, .inl (nf kk))), (m2, .inl (cL, md_L gm, .inr (.inl ky))), (m3, .inl (cB, md_L gm, .inl (nf kd))), (m4, .inl (cL, md_L gm, .inr (.inl nu))), (m5, .inl (cI, md_L gm, .inl (nf tb))), (m6, .inl (cI, md_L gm, .inl (nf nx))), (m7, .inl (cI, md_L gm, .inl (nf ot))), (m8, .inl (cI, 8191, .inl (nf ch))), (m9, .inl (cI, md_R gt, .inl (nf fi))), (m10, .inl (cI, md_R gt, .inl (nf la))), (m11, .inl (cI, md_R gt, .inl (nf sz)))] := hD
                        refine lv_aload_n hx hb d_M_next_118 rfl (lv_at hl 0 rfl) ?_
                        refine lv_iload hx hb d_M_next_119 (lv_at hl 4 rfl) ?_
                        refine lv_if_le (tgt := 134) hx hb d_M_next_121 (by decide) (fun c121 => ?_) (fun c121 => ?_)
                        · have c121 : fld ≤ 0 := by rw [← nI_0] at c121; exact (nI_leI (by omega) (by omega)).mp c121
                          refine lv_lconst (v := lN 0) hx hb d_M_next_134 rfl ?_
                          refine va_put (D := (dC, dI)) (ci := 3) (v := .long (lN 0)) (ty := .long) (C := R_M) (T := T_M) (N := 15) hx hb hw in_M ty_M tyok_M nn_M hown hK hP hD hS 0 rfl rfl 14 (by decide) (hw _ m_375) (fun _ h9 => h9) rfl (by decide +kernel) rfl rfl (Nat.le_of_ble_eq_true rfl) d_M_next_135 (fun H locs hP hD hS => ?_)
                          have hP : va_P (dC, dI) classes [(mo, .inr (3, [.ref m1, .ref m2, .ref m3, .ref m4, .ref m5, .ref m6, .ref m7, .int (nI (aN a)), .ref m8, .ref m9, .ref m10, .ref m11, .int (nI nT), .int (nI 0), .long (lN 0)])), (m1, .inl (cB, md_L gm, .inl (nf kk))), (m2, .inl (cL, md_L gm, .inr (.inl ky))), (m3, .inl (cB, md_L gm, .inl (nf kd))), (m4, .inl (cL, md_L gm, .inr (.inl nu))), (m5, .inl (cI, md_L gm, .inl (nf tb))), (m6, .inl (cI, md_L gm, .inl (nf nx))), (m7, .inl (cI, md_L gm, .inl (nf ot))), (m8, .inl (cI, 8191, .inl (nf ch))), (m9, .inl (cI, md_R gt, .inl (nf fi))), (m10, .inl (cI, md_R gt, .inl (nf la))), (m11, .inl (cI, md_R gt, .inl (nf sz)))] H := hP
                          have hD : va_D A [(mo, .inr (3, [.ref m1, .ref m2, .ref m3, .ref m4, .ref m5, .ref m6, .ref m7, .int (nI (aN a)), .ref m8, .ref m9, .ref m10, .ref m11, .int (nI nT), .int (nI 0), .long (lN 0)])), (m1, .inl (cB, md_L gm, .inl (nf kk))), (m2, .inl (cL, md_L gm, .inr (.inl ky))), (m3, .inl (cB, md_L gm, .inl (nf kd))), (m4, .inl (cL, md_L gm, .inr (.inl nu))), (m5, .inl (cI, md_L gm, .inl (nf tb))), (m6, .inl (cI, md_L gm, .inl (nf nx))), (m7, .inl (cI, md_L gm, .inl (nf ot))), (m8, .inl (cI, 8191, .inl (nf ch))), (m9, .inl (cI, md_R gt, .inl (nf fi))), (m10, .inl (cI, md_R gt, .inl (nf la))), (m11, .inl (cI, md_R gt, .inl (nf sz)))] := hD
                          refine lv_iload hx hb d_M_next_138 (lv_at hl 4 rfl) ?_
                          refine lv_if_le (tgt := 147) hx hb d_M_next_140 (by decide) (fun c140 => ?_) (fun c140 => ?_)
                          · have c140 : fld ≤ 0 := by rw [← nI_0] at c140; exact (nI_leI (by omega) (by omega)).mp c140
                            refine lv_iconst (v := nI 0) hx hb d_M_next_147 (by decide) ?_
                            have hpost : ((nI 0), 0, (lN 0)) = (fNext nT a (ck, cn) x kx k) := (by rw [eG]; unfold fNextG; rw [if_neg (fun h => c43 h.2), if_neg c21]; rw [hq.end0 hfl (by omega)]; rfl)
                            exact hret (nI 0) (0, lN 0) _ _ 148 ls hpost hP hD hS d_M_next_148
                          · have c140 : ¬ fld ≤ 0 := fun h => c140 (by rw [← nI_0]; exact (nI_leI (by omega) (by omega)).mpr h)
                            exact absurd c73 c140
                        · have c121 : ¬ fld ≤ 0 := fun h => c121 (by rw [← nI_0]; exact (nI_leI (by omega) (by omega)).mpr h)
                          exact absurd c73 c121
                      · have c101 : ¬ fld ≤ 0 := fun h => c101 (by rw [← nI_0]; exact (nI_leI (by omega) (by omega)).mpr h)
                        exact absurd c73 c101
                    · have c73 : ¬ fld ≤ 0 := fun h => c73 (by rw [← nI_0]; exact (nI_leI (by omega) (by omega)).mpr h)
                      have hz9 : fld ≠ 0 := by omega
                      have hff := hfl.facts hz9
                      have hdf := hd7 fld
                      have hAf := hAg fld (by omega) hfn
                      refine lv_aload_n hx hb d_M_next_76 rfl (lv_at hl 0 rfl) ?_
                      refine va_get (D := (dC, dI)) (ci := 3) (v := .ref m3) (C := R_M) (T := T_M) (N := 15) hx hb hw in_M hown hK hP 0 rfl rfl 2 (by decide) (hw _ m_363) (fun _ h9 => h9) rfl d_M_next_77 ?_
                      refine lv_iload hx hb d_M_next_80 (lv_at hl 4 rfl) ?_
                      refine fz_bald hx hb hK hP 3 2 rfl rfl (j := fld) (by omega) (by omega) d_M_next_82 ?_
                      refine lv_if_ne (tgt := 98) hx hb d_M_next_83 (by decide) (fun c83 => ?_) (fun c83 => ?_)
                      · have c83 : ¬ kd fld = 0 := fun h => c83 (((nI_eq (by omega) (by omega)).mpr h).trans nI_0)
                        refine lv_aload_n hx hb d_M_next_98 rfl (lv_at hl 0 rfl) ?_
                        refine lv_iload hx hb d_M_next_99 (lv_at hl 4 rfl) ?_
                        refine lv_if_le (tgt := 114) hx hb d_M_next_101 (by decide) (fun c101 => ?_) (fun c101 => ?_)
                        · have c101 : fld ≤ 0 := by rw [← nI_0] at c101; exact (nI_leI (by omega) (by omega)).mp c101
                          exact absurd c101 c73
                        · have c101 : ¬ fld ≤ 0 := fun h => c101 (by rw [← nI_0]; exact (nI_leI (by omega) (by omega)).mpr h)
                          refine lv_aload_n hx hb d_M_next_104 rfl (lv_at hl 0 rfl) ?_
                          refine va_get (D := (dC, dI)) (ci := 3) (v := .ref m1) (C := R_M) (T := T_M) (N := 15) hx hb hw in_M hown hK hP 0 rfl rfl 0 (by decide) (hw _ m_361) (fun _ h9 => h9) rfl d_M_next_105 ?_
                          refine lv_iload hx hb d_M_next_108 (lv_at hl 4 rfl) ?_
                          refine fz_bald hx hb hK hP 1 2 rfl rfl (j := fld) (by omega) (by omega) d_M_next_110 ?_
                          refine lv_goto (tgt := 115) hx hb d_M_next_111 (by decide) ?_
                          refine va_put (D := (dC, dI)) (ci := 3) (v := .int (nI (kk fld))) (ty := .int) (C := R_M) (T := T_M) (N := 15) hx hb hw in_M ty_M tyok_M nn_M hown hK hP hD hS 0 rfl rfl 13 (by decide) (hw _ m_374) (fun _ h9 => h9) rfl (by decide +kernel) rfl rfl (Nat.le_of_ble_eq_true rfl) d_M_next_115 (fun H locs hP hD hS => ?_)
                          have hP : va_P (dC, dI) classes [(mo, .inr (3, [.ref m1, .ref m2, .ref m3, .ref m4, .ref m5, .ref m6, .ref m7, .int (nI (aN a)), .ref m8, .ref m9, .ref m10, .ref m11, .int (nI nT), .int (nI (kk fld)), .long cn])), (m1, .inl (cB, md_L gm, .inl (nf kk))), (m2, .inl (cL, md_L gm, .inr (.inl ky))), (m3, .inl (cB, md_L gm, .inl (nf kd))), (m4, .inl (cL, md_L gm, .inr (.inl nu))), (m5, .inl (cI, md_L gm, .inl (nf tb))), (m6, .inl (cI, md_L gm, .inl (nf nx))), (m7, .inl (cI, md_L gm, .inl (nf ot))), (m8, .inl (cI, 8191, .inl (nf ch))), (m9, .inl (cI, md_R gt, .inl (nf fi))), (m10, .inl (cI, md_R gt, .inl (nf la))), (m11, .inl (cI, md_R gt, .inl (nf sz)))] H := hP
                          have hD : va_D A [(mo, .inr (3, [.ref m1, .ref m2, .ref m3, .ref m4, .ref m5, .ref m6, .ref m7, .int (nI (aN a)), .ref m8, .ref m9, .ref m10, .ref m11, .int (nI nT), .int (nI (kk fld)), .long cn])), (m1, .inl (cB, md_L gm, .inl (nf kk))), (m2, .inl (cL, md_L gm, .inr (.inl ky))), (m3, .inl (cB, md_L gm, .inl (nf kd))), (m4, .inl (cL, md_L gm, .inr (.inl nu))), (m5, .inl (cI, md_L gm, .inl (nf tb))), (m6, .inl (cI, md_L gm, .inl (nf nx))), (m7, .inl (cI, md_L gm, .inl (nf ot))), (m8, .inl (cI, 8191, .inl (nf ch))), (m9, .inl (cI, md_R gt, .inl (nf fi))), (m10, .inl (cI, md_R gt, .inl (nf la))), (m11, .inl (cI, md_R gt, .inl (nf sz)))] := hD
                          refine lv_aload_n hx hb d_M_next_118 rfl (lv_at hl 0 rfl) ?_
                          refine lv_iload hx hb d_M_next_119 (lv_at hl 4 rfl) ?_
                          refine lv_if_le (tgt := 134) hx hb d_M_next_121 (by decide) (fun c121 => ?_) (fun c121 => ?_)
                          · have c121 : fld ≤ 0 := by rw [← nI_0] at c121; exact (nI_leI (by omega) (by omega)).mp c121
                            exact absurd c121 c73
                          · have c121 : ¬ fld ≤ 0 := fun h => c121 (by rw [← nI_0]; exact (nI_leI (by omega) (by omega)).mpr h)
                            refine lv_aload_n hx hb d_M_next_124 rfl (lv_at hl 0 rfl) ?_
                            refine va_get (D := (dC, dI)) (ci := 3) (v := .ref m2) (C := R_M) (T := T_M) (N := 15) hx hb hw in_M hown hK hP 0 rfl rfl 1 (by decide) (hw _ m_362) (fun _ h9 => h9) rfl d_M_next_125 ?_
                            refine lv_iload hx hb d_M_next_128 (lv_at hl 4 rfl) ?_
                            refine fz_lald hx hb hK hP 2 1 rfl rfl (j := fld) (by omega) (by omega) d_M_next_130 ?_
                            refine lv_goto (tgt := 135) hx hb d_M_next_131 (by decide) ?_
                            refine va_put (D := (dC, dI)) (ci := 3) (v := .long (ky fld)) (ty := .long) (C := R_M) (T := T_M) (N := 15) hx hb hw in_M ty_M tyok_M nn_M hown hK hP hD hS 0 rfl rfl 14 (by decide) (hw _ m_375) (fun _ h9 => h9) rfl (by decide +kernel) rfl rfl (Nat.le_of_ble_eq_true rfl) d_M_next_135 (fun H locs hP hD hS => ?_)
                            have hP : va_P (dC, dI) classes [(mo, .inr (3, [.ref m1, .ref m2, .ref m3, .ref m4, .ref m5, .ref m6, .ref m7, .int (nI (aN a)), .ref m8, .ref m9, .ref m10, .ref m11, .int (nI nT), .int (nI (kk fld)), .long (ky fld)])), (m1, .inl (cB, md_L gm, .inl (nf kk))), (m2, .inl (cL, md_L gm, .inr (.inl ky))), (m3, .inl (cB, md_L gm, .inl (nf kd))), (m4, .inl (cL, md_L gm, .inr (.inl nu))), (m5, .inl (cI, md_L gm, .inl (nf tb))), (m6, .inl (cI, md_L gm, .inl (nf nx))), (m7, .inl (cI, md_L gm, .inl (nf ot))), (m8, .inl (cI, 8191, .inl (nf ch))), (m9, .inl (cI, md_R gt, .inl (nf fi))), (m10, .inl (cI, md_R gt, .inl (nf la))), (m11, .inl (cI, md_R gt, .inl (nf sz)))] H := hP
                            have hD : va_D A [(mo, .inr (3, [.ref m1, .ref m2, .ref m3, .ref m4, .ref m5, .ref m6, .ref m7, .int (nI (aN a)), .ref m8, .ref m9, .ref m10, .ref m11, .int (nI nT), .int (nI (kk fld)), .long (ky fld)])), (m1, .inl (cB, md_L gm, .inl (nf kk))), (m2, .inl (cL, md_L gm, .inr (.inl ky))), (m3, .inl (cB, md_L gm, .inl (nf kd))), (m4, .inl (cL, md_L gm, .inr (.inl nu))), (m5, .inl (cI, md_L gm, .inl (nf tb))), (m6, .inl (cI, md_L gm, .inl (nf nx))), (m7, .inl (cI, md_L gm, .inl (nf ot))), (m8, .inl (cI, 8191, .inl (nf ch))), (m9, .inl (cI, md_R gt, .inl (nf fi))), (m10, .inl (cI, md_R gt, .inl (nf la))), (m11, .inl (cI, md_R gt, .inl (nf sz)))] := hD
                            refine lv_iload hx hb d_M_next_138 (lv_at hl 4 rfl) ?_
                            refine lv_if_le (tgt := 147) hx hb d_M_next_140 (by decide) (fun c140 => ?_) (fun c140 => ?_)
                            · have c140 : fld ≤ 0 := by rw [← nI_0] at c140; exact (nI_leI (by omega) (by omega)).mp c140
                              exact absurd c140 c73
                            · have c140 : ¬ fld ≤ 0 := fun h => c140 (by rw [← nI_0]; exact (nI_leI (by omega) (by omega)).mpr h)
                              refine lv_iconst (v := nI 1) hx hb d_M_next_143 (by decide) ?_
                              refine lv_goto (tgt := 148) hx hb d_M_next_144 (by decide) ?_
                              have hpost : ((nI 1), (kk fld), (ky fld)) = (fNext nT a (ck, cn) x kx k) := (by rw [eG]; unfold fNextG; rw [if_neg (fun h => c43 h.2), if_neg c21]; rw [hq.endj hqq hfl hz9 (by rw [← hAf.2.2.2.1]; exact c83)]; unfold fNextJ; rw [if_neg hz9, hAf.1, hAf.2.2.1])
                              exact hret (nI 1) (kk fld, ky fld) _ _ 148 ls hpost hP hD hS d_M_next_148
                      · have c83 : kd fld = 0 := (nI_eq (by omega) (by omega)).mp (c83.trans nI_0.symm)
                        refine lv_aload_n hx hb d_M_next_86 rfl (lv_at hl 0 rfl) ?_
                        refine va_get (D := (dC, dI)) (ci := 3) (v := .ref m6) (C := R_M) (T := T_M) (N := 15) hx hb hw in_M hown hK hP 0 rfl rfl 5 (by decide) (hw _ m_366) (fun _ h9 => h9) rfl d_M_next_87 ?_
                        refine lv_iload hx hb d_M_next_90 (lv_at hl 4 rfl) ?_
                        refine fz_iald hx hb hK hP 6 0 rfl rfl (j := fld) (by omega) (by omega) d_M_next_92 ?_
                        refine lv_istore (lv' := [(5, .int (nI (nx fld))), (0, .ref mo), (1, .int (nI t)), (2, .int (nI d)), (3, .long k)]) hx hb d_M_next_93 hl (by decide) rfl (fun ls hl => ?_)
                        refine lv_goto (tgt := 71) hx hb d_M_next_95 (by decide) ?_
                        exact ih (nx fld) fld (by have := hMT.1 fld (by omega) hfn; rw [hff.2.2] at this; exact this) hfn (by omega) (hq.next hfl hz9 (by rw [← hAf.2.2.2.1]; exact c83)) (by omega) _ _ hP hD hS ls (lv_sub hl [1, 2, 3, 4, 0] rfl)
                exact loop_71 (aN a - (aF a (t * 8 + d) k) + 1) (nx (aF a (t * 8 + d) k)) (aF a (t * 8 + d) k) (by have := hMT.1 _ (Nat.pos_of_ne_zero c43) hfl0; rw [(aF_hit c43).1, show (t * 8 + d) / 8 = t by omega] at this; exact this) hfl0 (Nat.le_refl _) noV.refl (Nat.lt_succ_self _) _ _ hP hD hS ls (lv_sub hl [1, 2, 3, 4, 0] rfl)
              · have c50 : d = 0 := (nI_eq (by omega) (by omega)).mp (c50.trans nI_0.symm)
                exact absurd c50 c21
            · have c43 : aF a (t * 8 + d) k = 0 := (nI_eq (by omega) (by omega)).mp (c43.trans nI_0.symm)
              refine lv_bipush (v := -2) hx hb d_M_next_46 (by decide) ?_
              have hpost : ((-2), ck, cn) = (fNext nT a (ck, cn) x kx k) := (by rw [eG]; unfold fNextG; rw [if_pos ⟨c21, c43⟩])
              exact hret (-2) (ck, cn) _ _ 48 ls hpost hP hD hS d_M_next_48
        · have c21 : d = 0 := (nI_eq (by omega) (by omega)).mp (c21.trans nI_0.symm)
          refine lv_iconst (v := nI 0) hx hb d_M_next_24 (by decide) ?_
          refine lv_goto (tgt := 35) hx hb d_M_next_25 (by decide) ?_
          refine lv_istore (lv' := [(5, .int (nI 0)), (0, .ref mo), (1, .int (nI t)), (2, .int (nI d)), (3, .long k)]) hx hb d_M_next_35 hl (by decide) rfl (fun ls hl => ?_)
          refine lv_iload_n hx hb d_M_next_37 rfl (lv_at hl 3 rfl) ?_
          refine lv_if_le (tgt := 49) hx hb d_M_next_38 (by decide) (fun c38 => ?_) (fun c38 => ?_)
          · have c38 : d ≤ 0 := by rw [← nI_0] at c38; exact (nI_leI (by omega) (by omega)).mp c38
            refine lv_iload_n hx hb d_M_next_49 rfl (lv_at hl 3 rfl) ?_
            refine lv_if_ne (tgt := 62) hx hb d_M_next_50 (by decide) (fun c50 => ?_) (fun c50 => ?_)
            · have c50 : ¬ d = 0 := fun h => c50 (((nI_eq (by omega) (by omega)).mpr h).trans nI_0)
              exact absurd c21 c50
            · have c50 : d = 0 := (nI_eq (by omega) (by omega)).mp (c50.trans nI_0.symm)
              refine lv_aload_n hx hb d_M_next_53 rfl (lv_at hl 1 rfl) ?_
              refine va_get (D := (dC, dI)) (ci := 3) (v := .ref m9) (C := R_M) (T := T_M) (N := 15) hx hb hw in_M hown hK hP 0 rfl rfl 9 (by decide) (hw _ m_370) (fun _ h9 => h9) rfl d_M_next_54 ?_
              refine lv_iload_n hx hb d_M_next_57 rfl (lv_at hl 2 rfl) ?_
              refine fz_iald hx hb hK hP 9 0 rfl rfl (j := t) (by omega) (by omega) d_M_next_58 ?_
              refine lv_goto (tgt := 69) hx hb d_M_next_59 (by decide) ?_
              refine lv_istore (lv' := [(5, .int (nI (fi t))), (0, .ref mo), (1, .int (nI t)), (2, .int (nI d)), (3, .long k)]) hx hb d_M_next_69 hl (by decide) rfl (fun ls hl => ?_)
              have loop_71 : ∀ (fuel : Nat) (fld : Nat) (q : Nat), ch_N (aO a) t (aN a) q fld → q ≤ aN a → 0 ≤ q → noV a t (0) q → aN a - q < fuel → ∀ (H : Heap) (locs : List Loc), va_P (dC, dI) classes [(mo, .inr (3, [.ref m1, .ref m2, .ref m3, .ref m4, .ref m5, .ref m6, .ref m7, .int (nI (aN a)), .ref m8, .ref m9, .ref m10, .ref m11, .int (nI nT), .int (nI ck), .long cn])), (m1, .inl (cB, md_L gm, .inl (nf kk))), (m2, .inl (cL, md_L gm, .inr (.inl ky))), (m3, .inl (cB, md_L gm, .inl (nf kd))), (m4, .inl (cL, md_L gm, .inr (.inl nu))), (m5, .inl (cI, md_L gm, .inl (nf tb))), (m6, .inl (cI, md_L gm, .inl (nf nx))), (m7, .inl (cI, md_L gm, .inl (nf ot))), (m8, .inl (cI, 8191, .inl (nf ch))), (m9, .inl (cI, md_R gt, .inl (nf fi))), (m10, .inl (cI, md_R gt, .inl (nf la))), (m11, .inl (cI, md_R gt, .inl (nf sz)))] H → va_D A [(mo, .inr (3, [.ref m1, .ref m2, .ref m3, .ref m4, .ref m5, .ref m6, .ref m7, .int (nI (aN a)), .ref m8, .ref m9, .ref m10, .ref m11, .int (nI nT), .int (nI ck), .long cn])), (m1, .inl (cB, md_L gm, .inl (nf kk))), (m2, .inl (cL, md_L gm, .inr (.inl ky))), (m3, .inl (cB, md_L gm, .inl (nf kd))), (m4, .inl (cL, md_L gm, .inr (.inl nu))), (m5, .inl (cI, md_L gm, .inl (nf tb))), (m6, .inl (cI, md_L gm, .inl (nf nx))), (m7, .inl (cI, md_L gm, .inl (nf ot))), (m8, .inl (cI, 8191, .inl (nf ch))), (m9, .inl (cI, md_R gt, .inl (nf fi))), (m10, .inl (cI, md_R gt, .inl (nf la))), (m11, .inl (cI, md_R gt, .inl (nf sz)))] → va_S A s.heap H locs → ∀ (ls : Array Slot), lv_has ls 6 [(0, .ref mo), (1, .int (nI t)), (2, .int (nI d)), (3, .long k), (5, .int (nI fld))] → W p l e { frames := 2, cells := 0, slots := 0, locals := 50 } s m [.ref mo, .int x, .int kx, .long k].toArray below meth c H locs 0 0 Z (F0 m 71 ls []) := by
                intro fuel
                induction fuel with
                | zero => intro fld q hfl hqn hqq hq hfuel; exact absurd hfuel (Nat.not_lt_zero _)
                | succ fuel ih =>
                  intro fld q hfl hqn hqq hq hfuel H locs hP hD hS ls hl
                  have hfn := hfl.le
                  refine lv_iload hx hb d_M_next_71 (lv_at hl 4 rfl) ?_
                  refine lv_if_le (tgt := 98) hx hb d_M_next_73 (by decide) (fun c73 => ?_) (fun c73 => ?_)
                  · have c73 : fld ≤ 0 := by rw [← nI_0] at c73; exact (nI_leI (by omega) (by omega)).mp c73
                    refine lv_aload_n hx hb d_M_next_98 rfl (lv_at hl 0 rfl) ?_
                    refine lv_iload hx hb d_M_next_99 (lv_at hl 4 rfl) ?_
                    refine lv_if_le (tgt := 114) hx hb d_M_next_101 (by decide) (fun c101 => ?_) (fun c101 => ?_)
                    · have c101 : fld ≤ 0 := by rw [← nI_0] at c101; exact (nI_leI (by omega) (by omega)).mp c101
                      refine lv_iconst (v := nI 0) hx hb d_M_next_114 (by decide) ?_
                      refine va_put (D := (dC, dI)) (ci := 3) (v := .int (nI 0)) (ty := .int) (C := R_M) (T := T_M) (N := 15) hx hb hw in_M ty_M tyok_M nn_M hown hK hP hD hS 0 rfl rfl 13 (by decide) (hw _ m_374) (fun _ h9 => h9) rfl (by decide +kernel) rfl rfl (Nat.le_of_ble_eq_true rfl) d_M_next_115 (fun H locs hP hD hS => ?_)
                      have hP : va_P (dC, dI) classes [(mo, .inr (3, [.ref m1, .ref m2, .ref m3, .ref m4, .ref m5, .ref m6, .ref m7, .int (nI (aN a)), .ref m8, .ref m9, .ref m10, .ref m11, .int (nI nT), .int (nI 0), .long cn])), (m1, .inl (cB, md_L gm, .inl (nf kk))), (m2, .inl (cL, md_L gm, .inr (.inl ky))), (m3, .inl (cB, md_L gm, .inl (nf kd))), (m4, .inl (cL, md_L gm, .inr (.inl nu))), (m5, .inl (cI, md_L gm, .inl (nf tb))), (m6, .inl (cI, md_L gm, .inl (nf nx))), (m7, .inl (cI, md_L gm, .inl (nf ot))), (m8, .inl (cI, 8191, .inl (nf ch))), (m9, .inl (cI, md_R gt, .inl (nf fi))), (m10, .inl (cI, md_R gt, .inl (nf la))), (m11, .inl (cI, md_R gt, .inl (nf sz)))] H := hP
                      have hD : va_D A [(mo, .inr (3, [.ref m1, .ref m2, .ref m3, .ref m4, .ref m5, .ref m6, .ref m7, .int (nI (aN a)), .ref m8, .ref m9, .ref m10, .ref m11, .int (nI nT), .int (nI 0), .long cn])), (m1, .inl (cB, md_L gm, .inl (nf kk))), (m2, .inl (cL, md_L gm, .inr (.inl ky))), (m3, .inl (cB, md_L gm, .inl (nf kd))), (m4, .inl (cL, md_L gm, .inr (.inl nu))), (m5, .inl (cI, md_L gm, .inl (nf tb))), (m6, .inl (cI, md_L gm, .inl (nf nx))), (m7, .inl (cI, md_L gm, .inl (nf ot))), (m8, .inl (cI, 8191, .inl (nf ch))), (m9, .inl (cI, md_R gt, .inl (nf fi))), (m10, .inl (cI, md_R gt, .inl (nf la))), (m11, .inl (cI, md_R gt, .inl (nf sz)))] := hD
                      refine lv_aload_n hx hb d_M_next_118 rfl (lv_at hl 0 rfl) ?_
                      refine lv_iload hx hb d_M_next_119 (lv_at hl 4 rfl) ?_
                      refine lv_if_le (tgt := 134) hx hb d_M_next_121 (by decide) (fun c121 => ?_) (fun c121 => ?_)
                      · have c121 : fld ≤ 0 := by rw [← nI_0] at c121; exact (nI_leI (by omega) (by omega)).mp c121
                        refine lv_lconst (v := lN 0) hx hb d_M_next_134 rfl ?_
                        refine va_put (D := (dC, dI)) (ci := 3) (v := .long (lN 0)) (ty := .long) (C := R_M) (T := T_M) (N := 15) hx hb hw in_M ty_M tyok_M nn_M hown hK hP hD hS 0 rfl rfl 14 (by decide) (hw _ m_375) (fun _ h9 => h9) rfl (by decide +kernel) rfl rfl (Nat.le_of_ble_eq_true rfl) d_M_next_135 (fun H locs hP hD hS => ?_)
                        have hP : va_P (dC, dI) classes [(mo, .inr (3, [.ref m1, .ref m2, .ref m3, .ref m4, .ref m5, .ref m6, .ref m7, .int (nI (aN a)), .ref m8, .ref m9, .ref m10, .ref m11, .int (nI nT), .int (nI 0), .long (lN 0)])), (m1, .inl (cB, md_L gm, .inl (nf kk))), (m2, .inl (cL, md_L gm, .inr (.inl ky))), (m3, .inl (cB, md_L gm, .inl (nf kd))), (m4, .inl (cL, md_L gm, .inr (.inl nu))), (m5, .inl (cI, md_L gm, .inl (nf tb))), (m6, .inl (cI, md_L gm, .inl (nf nx))), (m7, .inl (cI, md_L gm, .inl (nf ot))), (m8, .inl (cI, 8191, .inl (nf ch))), (m9, .inl (cI, md_R gt, .inl (nf fi))), (m10, .inl (cI, md_R gt, .inl (nf la))), (m11, .inl (cI, md_R gt, .inl (nf sz)))] H := hP
                        have hD : va_D A [(mo, .inr (3, [.ref m1, .ref m2, .ref m3, .ref m4, .ref m5, .ref m6, .ref m7, .int (nI (aN a)), .ref m8, .ref m9, .ref m10, .ref m11, .int (nI nT), .int (nI 0), .long (lN 0)])), (m1, .inl (cB, md_L gm, .inl (nf kk))), (m2, .inl (cL, md_L gm, .inr (.inl ky))), (m3, .inl (cB, md_L gm, .inl (nf kd))), (m4, .inl (cL, md_L gm, .inr (.inl nu))), (m5, .inl (cI, md_L gm, .inl (nf tb))), (m6, .inl (cI, md_L gm, .inl (nf nx))), (m7, .inl (cI, md_L gm, .inl (nf ot))), (m8, .inl (cI, 8191, .inl (nf ch))), (m9, .inl (cI, md_R gt, .inl (nf fi))), (m10, .inl (cI, md_R gt, .inl (nf la))), (m11, .inl (cI, md_R gt, .inl (nf sz)))] := hD
                        refine lv_iload hx hb d_M_next_138 (lv_at hl 4 rfl) ?_
                        refine lv_if_le (tgt := 147) hx hb d_M_next_140 (by decide) (fun c140 => ?_) (fun c140 => ?_)
                        · have c140 : fld ≤ 0 := by rw [← nI_0] at c140; exact (nI_leI (by omega) (by omega)).mp c140
                          refine lv_iconst (v := nI 0) hx hb d_M_next_147 (by decide) ?_
                          have hpost : ((nI 0), 0, (lN 0)) = (fNext nT a (ck, cn) x kx k) := (by rw [eG]; unfold fNextG; rw [if_neg (fun h => h.1 c21), if_pos c21]; rw [hq.end0 hfl (by omega)]; rfl)
                          exact hret (nI 0) (0, lN 0) _ _ 148 ls hpost hP hD hS d_M_next_148
                        · have c140 : ¬ fld ≤ 0 := fun h => c140 (by rw [← nI_0]; exact (nI_leI (by omega) (by omega)).mpr h)
                          exact absurd c73 c140
                      · have c121 : ¬ fld ≤ 0 := fun h => c121 (by rw [← nI_0]; exact (nI_leI (by omega) (by omega)).mpr h)
                        exact absurd c73 c121
                    · have c101 : ¬ fld ≤ 0 := fun h => c101 (by rw [← nI_0]; exact (nI_leI (by omega) (by omega)).mpr h)
                      exact absurd c73 c101
                  · have c73 : ¬ fld ≤ 0 := fun h => c73 (by rw [← nI_0]; exact (nI_leI (by omega) (by omega)).mpr h)
                    have hz9 : fld ≠ 0 := by omega
                    have hff := hfl.facts hz9
                    have hdf := hd7 fld
                    have hAf := hAg fld (by omega) hfn
                    refine lv_aload_n hx hb d_M_next_76 rfl (lv_at hl 0 rfl) ?_
                    refine va_get (D := (dC, dI)) (ci := 3) (v := .ref m3) (C := R_M) (T := T_M) (N := 15) hx hb hw in_M hown hK hP 0 rfl rfl 2 (by decide) (hw _ m_363) (fun _ h9 => h9) rfl d_M_next_77 ?_
                    refine lv_iload hx hb d_M_next_80 (lv_at hl 4 rfl) ?_
                    refine fz_bald hx hb hK hP 3 2 rfl rfl (j := fld) (by omega) (by omega) d_M_next_82 ?_
                    refine lv_if_ne (tgt := 98) hx hb d_M_next_83 (by decide) (fun c83 => ?_) (fun c83 => ?_)
                    · have c83 : ¬ kd fld = 0 := fun h => c83 (((nI_eq (by omega) (by omega)).mpr h).trans nI_0)
                      refine lv_aload_n hx hb d_M_next_98 rfl (lv_at hl 0 rfl) ?_
                      refine lv_iload hx hb d_M_next_99 (lv_at hl 4 rfl) ?_
                      refine lv_if_le (tgt := 114) hx hb d_M_next_101 (by decide) (fun c101 => ?_) (fun c101 => ?_)
                      · have c101 : fld ≤ 0 := by rw [← nI_0] at c101; exact (nI_leI (by omega) (by omega)).mp c101
                        exact absurd c101 c73
                      · have c101 : ¬ fld ≤ 0 := fun h => c101 (by rw [← nI_0]; exact (nI_leI (by omega) (by omega)).mpr h)
                        refine lv_aload_n hx hb d_M_next_104 rfl (lv_at hl 0 rfl) ?_
                        refine va_get (D := (dC, dI)) (ci := 3) (v := .ref m1) (C := R_M) (T := T_M) (N := 15) hx hb hw in_M hown hK hP 0 rfl rfl 0 (by decide) (hw _ m_361) (fun _ h9 => h9) rfl d_M_next_105 ?_
                        refine lv_iload hx hb d_M_next_108 (lv_at hl 4 rfl) ?_
                        refine fz_bald hx hb hK hP 1 2 rfl rfl (j := fld) (by omega) (by omega) d_M_next_110 ?_
                        refine lv_goto (tgt := 115) hx hb d_M_next_111 (by decide) ?_
                        refine va_put (D := (dC, dI)) (ci := 3) (v := .int (nI (kk fld))) (ty := .int) (C := R_M) (T := T_M) (N := 15) hx hb hw in_M ty_M tyok_M nn_M hown hK hP hD hS 0 rfl rfl 13 (by decide) (hw _ m_374) (fun _ h9 => h9) rfl (by decide +kernel) rfl rfl (Nat.le_of_ble_eq_true rfl) d_M_next_115 (fun H locs hP hD hS => ?_)
                        have hP : va_P (dC, dI) classes [(mo, .inr (3, [.ref m1, .ref m2, .ref m3, .ref m4, .ref m5, .ref m6, .ref m7, .int (nI (aN a)), .ref m8, .ref m9, .ref m10, .ref m11, .int (nI nT), .int (nI (kk fld)), .long cn])), (m1, .inl (cB, md_L gm, .inl (nf kk))), (m2, .inl (cL, md_L gm, .inr (.inl ky))), (m3, .inl (cB, md_L gm, .inl (nf kd))), (m4, .inl (cL, md_L gm, .inr (.inl nu))), (m5, .inl (cI, md_L gm, .inl (nf tb))), (m6, .inl (cI, md_L gm, .inl (nf nx))), (m7, .inl (cI, md_L gm, .inl (nf ot))), (m8, .inl (cI, 8191, .inl (nf ch))), (m9, .inl (cI, md_R gt, .inl (nf fi))), (m10, .inl (cI, md_R gt, .inl (nf la))), (m11, .inl (cI, md_R gt, .inl (nf sz)))] H := hP
                        have hD : va_D A [(mo, .inr (3, [.ref m1, .ref m2, .ref m3, .ref m4, .ref m5, .ref m6, .ref m7, .int (nI (aN a)), .ref m8, .ref m9, .ref m10, .ref m11, .int (nI nT), .int (nI (kk fld)), .long cn])), (m1, .inl (cB, md_L gm, .inl (nf kk))), (m2, .inl (cL, md_L gm, .inr (.inl ky))), (m3, .inl (cB, md_L gm, .inl (nf kd))), (m4, .inl (cL, md_L gm, .inr (.inl nu))), (m5, .inl (cI, md_L gm, .inl (nf tb))), (m6, .inl (cI, md_L gm, .inl (nf nx))), (m7, .inl (cI, md_L gm, .inl (nf ot))), (m8, .inl (cI, 8191, .inl (nf ch))), (m9, .inl (cI, md_R gt, .inl (nf fi))), (m10, .inl (cI, md_R gt, .inl (nf la))), (m11, .inl (cI, md_R gt, .inl (nf sz)))] := hD
                        refine lv_aload_n hx hb d_M_next_118 rfl (lv_at hl 0 rfl) ?_
                        refine lv_iload hx hb d_M_next_119 (lv_at hl 4 rfl) ?_
                        refine lv_if_le (tgt := 134) hx hb d_M_next_121 (by decide) (fun c121 => ?_) (fun c121 => ?_)
                        · have c121 : fld ≤ 0 := by rw [← nI_0] at c121; exact (nI_leI (by omega) (by omega)).mp c121
                          exact absurd c121 c73
                        · have c121 : ¬ fld ≤ 0 := fun h => c121 (by rw [← nI_0]; exact (nI_leI (by omega) (by omega)).mpr h)
                          refine lv_aload_n hx hb d_M_next_124 rfl (lv_at hl 0 rfl) ?_
                          refine va_get (D := (dC, dI)) (ci := 3) (v := .ref m2) (C := R_M) (T := T_M) (N := 15) hx hb hw in_M hown hK hP 0 rfl rfl 1 (by decide) (hw _ m_362) (fun _ h9 => h9) rfl d_M_next_125 ?_
                          refine lv_iload hx hb d_M_next_128 (lv_at hl 4 rfl) ?_
                          refine fz_lald hx hb hK hP 2 1 rfl rfl (j := fld) (by omega) (by omega) d_M_next_130 ?_
                          refine lv_goto (tgt := 135) hx hb d_M_next_131 (by decide) ?_
                          refine va_put (D := (dC, dI)) (ci := 3) (v := .long (ky fld)) (ty := .long) (C := R_M) (T := T_M) (N := 15) hx hb hw in_M ty_M tyok_M nn_M hown hK hP hD hS 0 rfl rfl 14 (by decide) (hw _ m_375) (fun _ h9 => h9) rfl (by decide +kernel) rfl rfl (Nat.le_of_ble_eq_true rfl) d_M_next_135 (fun H locs hP hD hS => ?_)
                          have hP : va_P (dC, dI) classes [(mo, .inr (3, [.ref m1, .ref m2, .ref m3, .ref m4, .ref m5, .ref m6, .ref m7, .int (nI (aN a)), .ref m8, .ref m9, .ref m10, .ref m11, .int (nI nT), .int (nI (kk fld)), .long (ky fld)])), (m1, .inl (cB, md_L gm, .inl (nf kk))), (m2, .inl (cL, md_L gm, .inr (.inl ky))), (m3, .inl (cB, md_L gm, .inl (nf kd))), (m4, .inl (cL, md_L gm, .inr (.inl nu))), (m5, .inl (cI, md_L gm, .inl (nf tb))), (m6, .inl (cI, md_L gm, .inl (nf nx))), (m7, .inl (cI, md_L gm, .inl (nf ot))), (m8, .inl (cI, 8191, .inl (nf ch))), (m9, .inl (cI, md_R gt, .inl (nf fi))), (m10, .inl (cI, md_R gt, .inl (nf la))), (m11, .inl (cI, md_R gt, .inl (nf sz)))] H := hP
                          have hD : va_D A [(mo, .inr (3, [.ref m1, .ref m2, .ref m3, .ref m4, .ref m5, .ref m6, .ref m7, .int (nI (aN a)), .ref m8, .ref m9, .ref m10, .ref m11, .int (nI nT), .int (nI (kk fld)), .long (ky fld)])), (m1, .inl (cB, md_L gm, .inl (nf kk))), (m2, .inl (cL, md_L gm, .inr (.inl ky))), (m3, .inl (cB, md_L gm, .inl (nf kd))), (m4, .inl (cL, md_L gm, .inr (.inl nu))), (m5, .inl (cI, md_L gm, .inl (nf tb))), (m6, .inl (cI, md_L gm, .inl (nf nx))), (m7, .inl (cI, md_L gm, .inl (nf ot))), (m8, .inl (cI, 8191, .inl (nf ch))), (m9, .inl (cI, md_R gt, .inl (nf fi))), (m10, .inl (cI, md_R gt, .inl (nf la))), (m11, .inl (cI, md_R gt, .inl (nf sz)))] := hD
                          refine lv_iload hx hb d_M_next_138 (lv_at hl 4 rfl) ?_
                          refine lv_if_le (tgt := 147) hx hb d_M_next_140 (by decide) (fun c140 => ?_) (fun c140 => ?_)
                          · have c140 : fld ≤ 0 := by rw [← nI_0] at c140; exact (nI_leI (by omega) (by omega)).mp c140
                            exact absurd c140 c73
                          · have c140 : ¬ fld ≤ 0 := fun h => c140 (by rw [← nI_0]; exact (nI_leI (by omega) (by omega)).mpr h)
                            refine lv_iconst (v := nI 1) hx hb d_M_next_143 (by decide) ?_
                            refine lv_goto (tgt := 148) hx hb d_M_next_144 (by decide) ?_
                            have hpost : ((nI 1), (kk fld), (ky fld)) = (fNext nT a (ck, cn) x kx k) := (by rw [eG]; unfold fNextG; rw [if_neg (fun h => h.1 c21), if_pos c21]; rw [hq.endj hqq hfl hz9 (by rw [← hAf.2.2.2.1]; exact c83)]; unfold fNextJ; rw [if_neg hz9, hAf.1, hAf.2.2.1])
                            exact hret (nI 1) (kk fld, ky fld) _ _ 148 ls hpost hP hD hS d_M_next_148
                    · have c83 : kd fld = 0 := (nI_eq (by omega) (by omega)).mp (c83.trans nI_0.symm)
                      refine lv_aload_n hx hb d_M_next_86 rfl (lv_at hl 0 rfl) ?_
                      refine va_get (D := (dC, dI)) (ci := 3) (v := .ref m6) (C := R_M) (T := T_M) (N := 15) hx hb hw in_M hown hK hP 0 rfl rfl 5 (by decide) (hw _ m_366) (fun _ h9 => h9) rfl d_M_next_87 ?_
                      refine lv_iload hx hb d_M_next_90 (lv_at hl 4 rfl) ?_
                      refine fz_iald hx hb hK hP 6 0 rfl rfl (j := fld) (by omega) (by omega) d_M_next_92 ?_
                      refine lv_istore (lv' := [(5, .int (nI (nx fld))), (0, .ref mo), (1, .int (nI t)), (2, .int (nI d)), (3, .long k)]) hx hb d_M_next_93 hl (by decide) rfl (fun ls hl => ?_)
                      refine lv_goto (tgt := 71) hx hb d_M_next_95 (by decide) ?_
                      exact ih (nx fld) fld (by have := hMT.1 fld (by omega) hfn; rw [hff.2.2] at this; exact this) hfn (by omega) (hq.next hfl hz9 (by rw [← hAf.2.2.2.1]; exact c83)) (by omega) _ _ hP hD hS ls (lv_sub hl [1, 2, 3, 4, 0] rfl)
              exact loop_71 (aN a - 0 + 1) (fi t) 0 (hMT.2.1 t ht1 ht2).1 (Nat.zero_le _) (Nat.le_refl _) noV.refl (Nat.lt_succ_self _) _ _ hP hD hS ls (lv_sub hl [1, 2, 3, 4, 0] rfl)
          · have c38 : ¬ d ≤ 0 := fun h => c38 (by rw [← nI_0]; exact (nI_leI (by omega) (by omega)).mpr h)
            exact absurd (by omega) c38
      · refine lv_iconst (v := -1) hx hb d_M_next_18 (by decide) ?_
        have hpost : ((-1), ck, cn) = (fNext nT a (ck, cn) x kx k) := (ifc_neg (fun h => okV_nle c15 h.2)).symm
        exact hret (-1) (ck, cn) _ _ 19 ls hpost hP hD hS d_M_next_19
