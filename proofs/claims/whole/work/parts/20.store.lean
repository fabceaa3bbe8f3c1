set_option maxHeartbeats 4000000 in
set_option maxRecDepth 100000 in
/-- scatter: what it computes -/
theorem c_scatter (l : Launch) (dC : Nat → ClassId) (dI : Nat → Nat → Nat) (cI cL cB : ClassId) (o : Nat) (k : Int64) (ho : o < 2 ^ 20) : QryI l y_S_scatter (wd y_S_scatter b_S_scatter 5 (some .int)) 0 0 (dC, dI) classes (tyK cI cL cB) [.int (nI o), .long k] [] (fun r : Int32 => r = hz_scat o k) := by
  refine QryI.mk (cc := b_S_scatter) (maxL := 5) (by decide) rfl (Nat.le_of_ble_eq_true rfl) ?_
  intro p e s m below meth c Z ls hx hb hml hown hts hP hK hret hl
  have hP : va_P (dC, dI) classes [] s.heap := hP
  have hown : s.vm.findClass R_S = some m.cls := hown
  have hw : ∀ x ∈ WALL, x.before _ s = true := fun x h => hts x (List.mem_cons_of_mem _ h)
  have hl : lv_has ls 5 [(0, .int (nI o)), (1, .long k)] := hl
  refine lv_lload_n hx hb d_S_scatter_0 rfl (lv_at hl 1 rfl) ?_
  refine lv_ldc2 (v := -7046029254386353131) hx hb hown (hw _ m_158) d_S_scatter_1 ?_
  refine lv_lmul hx hb d_S_scatter_4 ?_
  refine lv_iload_n hx hb d_S_scatter_5 rfl (lv_at hl 0 rfl) ?_
  refine lv_i2l (v := lN o) hx hb d_S_scatter_6 (nI_l (by omega)) ?_
  refine lv_ldc2 (v := -4417276706812531889) hx hb hown (hw _ m_159) d_S_scatter_7 ?_
  refine lv_lmul hx hb d_S_scatter_10 ?_
  refine lv_ladd hx hb d_S_scatter_11 ?_
  refine lv_topl (fun x1 ex1 => ?_)
  refine lv_lstore_n (lv' := [(3, .long x1), (0, .int (nI o)), (1, .long k)]) hx hb d_S_scatter_12 rfl hl (by decide) rfl (fun ls hl => ?_)
  refine lv_lload_n hx hb d_S_scatter_13 rfl (lv_at hl 0 rfl) ?_
  refine lv_lload_n hx hb d_S_scatter_14 rfl (lv_at hl 0 rfl) ?_
  refine lv_bipush (v := nI 32) hx hb d_S_scatter_15 (by decide) ?_
  refine lv_lushr hx hb d_S_scatter_17 rfl ?_
  refine lv_lxor hx hb d_S_scatter_18 ?_
  refine lv_ldc2 (v := -2960836687051489901) hx hb hown (hw _ m_160) d_S_scatter_19 ?_
  refine lv_lmul hx hb d_S_scatter_22 ?_
  refine lv_topl (fun x2 ex2 => ?_)
  refine lv_lstore_n (lv' := [(3, .long x2), (0, .int (nI o)), (1, .long k)]) hx hb d_S_scatter_23 rfl hl (by decide) rfl (fun ls hl => ?_)
  refine lv_lload_n hx hb d_S_scatter_24 rfl (lv_at hl 0 rfl) ?_
  refine lv_lload_n hx hb d_S_scatter_25 rfl (lv_at hl 0 rfl) ?_
  refine lv_bipush (v := nI 32) hx hb d_S_scatter_26 (by decide) ?_
  refine lv_lushr hx hb d_S_scatter_28 rfl ?_
  refine lv_lxor hx hb d_S_scatter_29 ?_
  refine lv_l2i hx hb d_S_scatter_30 rfl ?_
  exact hret ((x2 ^^^ ((x2.toUInt64 >>> ((nI 32).toInt64.toUInt64 &&& Int64.toUInt64 63)).toInt64)).toInt32) 31 ls (by rw [ex2, ex1]; unfold hz_scat hz_fold hz_mix; rfl) d_S_scatter_31
set_option maxHeartbeats 4000000 in
set_option maxRecDepth 100000 in
/-- owner: table and kind in one number -/
theorem c_owner (l : Launch) (dC : Nat → ClassId) (dI : Nat → Nat → Nat) (cI cL cB : ClassId) (t : Nat) (kk : Nat) (ht : t < 2 ^ 28) (hk : kk < 8) : QryI l y_S_owner (wd y_S_owner b_S_owner 2 (some .int)) 0 0 (dC, dI) classes (tyK cI cL cB) [.int (nI t), .int (nI kk)] [] (fun r : Int32 => r = nI (t * 8 + kk)) := by
  refine QryI.mk (cc := b_S_owner) (maxL := 2) (by decide) rfl (Nat.le_of_ble_eq_true rfl) ?_
  intro p e s m below meth c Z ls hx hb hml hown hts hP hK hret hl
  have hP : va_P (dC, dI) classes [] s.heap := hP
  have hown : s.vm.findClass R_S = some m.cls := hown
  have hw : ∀ x ∈ WALL, x.before _ s = true := fun x h => hts x (List.mem_cons_of_mem _ h)
  have hl : lv_has ls 2 [(0, .int (nI t)), (1, .int (nI kk))] := hl
  refine lv_iload_n hx hb d_S_owner_0 rfl (lv_at hl 0 rfl) ?_
  refine lv_iconst (v := nI 3) hx hb d_S_owner_1 (by decide) ?_
  refine lv_ishl hx hb d_S_owner_2 ?_
  refine fz_eqi (y := nI (t * 8)) (pk_shlN _ 3 (by decide) (by omega)) ?_
  refine lv_iload_n hx hb d_S_owner_3 rfl (lv_at hl 1 rfl) ?_
  refine lv_ior hx hb d_S_owner_4 ?_
  refine fz_eqi (y := nI (t * 8 + kk)) (fz_or3 hk ht) ?_
  exact hret (nI (t * 8 + kk)) 5 ls rfl d_S_owner_5
set_option maxHeartbeats 4000000 in
set_option maxRecDepth 100000 in
/-- room -/
theorem c_room (l : Launch) (dC : Nat → ClassId) (dI : Nat → Nat → Nat) (cI cL cB : ClassId) (f : Nat) (a1 : Nat) (a2 : Nat) (a3 : Nat) (a4 : Nat) (a5 : Nat) (a6 : Nat) (cnt : Nat) (hc : cnt ≤ 40000) : QryI l y_S_room (wd y_S_room b_S_room 1 (some .int)) 0 0 (dC, dI) classes (tyK cI cL cB) [.ref f] [(f, .inr (2, [.int (nI cnt), .ref a1, .ref a2, .ref a3, .ref a4, .ref a5, .ref a6]))] (fun r : Int32 => r = nI (40000 - cnt)) := by
  refine QryI.mk (cc := b_S_room) (maxL := 1) (by decide) rfl (Nat.le_of_ble_eq_true rfl) ?_
  intro p e s m below meth c Z ls hx hb hml hown hts hP hK hret hl
  have hP : va_P (dC, dI) classes [(f, .inr (2, [.int (nI cnt), .ref a1, .ref a2, .ref a3, .ref a4, .ref a5, .ref a6]))] s.heap := hP
  have hown : s.vm.findClass R_S = some m.cls := hown
  have hw : ∀ x ∈ WALL, x.before _ s = true := fun x h => hts x (List.mem_cons_of_mem _ h)
  have hl : lv_has ls 1 [(0, .ref f)] := hl
  refine lv_ldc (v := 40000) hx hb hown (hw _ m_143) d_S_room_0 ?_
  refine fz_eqi (y := nI 40000) (by decide) ?_
  refine lv_aload_n hx hb d_S_room_2 rfl (lv_at hl 0 rfl) ?_
  refine va_get (D := (dC, dI)) (ci := 2) (v := .int (nI cnt)) (C := R_S) (T := T_S) (N := 7) hx hb hw in_S hown hK hP 0 rfl rfl 0 (by decide) (hw _ m_54) (fun _ h9 => h9) rfl d_S_room_3 ?_
  refine lv_isub hx hb d_S_room_6 ?_
  refine fz_eqi (y := nI (40000 - cnt)) (pk_sub (by omega)) ?_
  exact hret (nI (40000 - cnt)) 7 ls rfl d_S_room_7
set_option maxHeartbeats 4000000 in
set_option maxRecDepth 100000 in
/-- keyKind -/
theorem c_keyKind (l : Launch) (dC : Nat → ClassId) (dI : Nat → Nat → Nat) (cI cL cB : ClassId) (f : Nat) (a1 : Nat) (a2 : Nat) (a3 : Nat) (a4 : Nat) (a5 : Nat) (a6 : Nat) (cnt : Nat) (L : Nat) (i : Nat) (ow : Nat → Nat) (hi : i < L) (hL : L < 2 ^ 20) (ho : ow i < 2 ^ 20) : QryI l y_S_keyKind (wd y_S_keyKind b_S_keyKind 2 (some .int)) 0 0 (dC, dI) classes (tyK cI cL cB) [.ref f, .int (nI i)] [(f, .inr (2, [.int (nI cnt), .ref a1, .ref a2, .ref a3, .ref a4, .ref a5, .ref a6])), (a1, .inl (cI, L, .inl (nf ow)))] (fun r : Int32 => r = nI (ow i % 8)) := by
  refine QryI.mk (cc := b_S_keyKind) (maxL := 2) (by decide) rfl (Nat.le_of_ble_eq_true rfl) ?_
  intro p e s m below meth c Z ls hx hb hml hown hts hP hK hret hl
  have hP : va_P (dC, dI) classes [(f, .inr (2, [.int (nI cnt), .ref a1, .ref a2, .ref a3, .ref a4, .ref a5, .ref a6])), (a1, .inl (cI, L, .inl (nf ow)))] s.heap := hP
  have hown : s.vm.findClass R_S = some m.cls := hown
  have hw : ∀ x ∈ WALL, x.before _ s = true := fun x h => hts x (List.mem_cons_of_mem _ h)
  have hl : lv_has ls 2 [(0, .ref f), (1, .int (nI i))] := hl
  refine lv_aload_n hx hb d_S_keyKind_0 rfl (lv_at hl 0 rfl) ?_
  refine va_get (D := (dC, dI)) (ci := 2) (v := .ref a1) (C := R_S) (T := T_S) (N := 7) hx hb hw in_S hown hK hP 0 rfl rfl 1 (by decide) (hw _ m_56) (fun _ h9 => h9) rfl d_S_keyKind_1 ?_
  refine lv_iload_n hx hb d_S_keyKind_4 rfl (lv_at hl 1 rfl) ?_
  refine fz_iald hx hb hK hP 1 0 rfl rfl (j := i) (by omega) (by omega) d_S_keyKind_5 ?_
  refine lv_bipush (v := nI 7) hx hb d_S_keyKind_6 (by decide) ?_
  refine lv_iand hx hb d_S_keyKind_8 ?_
  refine fz_eqi (y := nI (ow i % 8)) (pk_andN (by omega) 3 (by decide)) ?_
  exact hret (nI (ow i % 8)) 9 ls rfl d_S_keyKind_9
set_option maxHeartbeats 4000000 in
set_option maxRecDepth 100000 in
/-- slotOf: where the search of a key ends -/
theorem c_slotOf (l : Launch) (dC : Nat → ClassId) (dI : Nat → Nat → Nat) (cI cL cB : ClassId) (f : Nat) (a1 : Nat) (a2 : Nat) (a3 : Nat) (a4 : Nat) (a5 : Nat) (a6 : Nat) (cnt : Nat) (L : Nat) (M : Nat) (kap : Nat) (n : Nat) (o : Nat) (k : Int64) (ow : Nat → Nat) (sn : Nat → Nat) (ky : Nat → Int64) (hn : n < L) (hL : L < 2 ^ 20) (hM : M = 2 ^ kap) (hM2 : M < 2 ^ 20) (hnM : n < M) (ho : o < 2 ^ 20) (hO : ∀ i, i ≤ n → ow i < 2 ^ 20) (hU : hz_U n ow ky) (hT : hz_T M n (fun i => hz_h M (ow i) (ky i)) sn) : QryI l y_S_slotOf (wd y_S_slotOf b_S_slotOf 8 (some .int)) 1 24 (dC, dI) classes (tyK cI cL cB) [.ref f, .int (nI o), .long k] [(f, .inr (2, [.int (nI cnt), .ref a1, .ref a2, .ref a3, .ref a4, .ref a5, .ref a6])), (a1, .inl (cI, L, .inl (nf ow))), (a2, .inl (cL, L, .inr (.inl ky))), (a6, .inl (cI, M, .inl (nf sn)))] (fun r : Int32 => ∃ d, d < M ∧ r = nI ((hz_h M o k + d) % M) ∧ (∀ d', d' < d → sn ((hz_h M o k + d') % M) ≠ 0) ∧ sn ((hz_h M o k + d) % M) = fnd ow ky o k n) := by
  refine QryI.mk (cc := b_S_slotOf) (maxL := 8) (by decide) rfl (Nat.le_of_ble_eq_true rfl) ?_
  intro p e s m below meth c Z ls hx hb hml hown hts hP hK hret hl
  have hP : va_P (dC, dI) classes [(f, .inr (2, [.int (nI cnt), .ref a1, .ref a2, .ref a3, .ref a4, .ref a5, .ref a6])), (a1, .inl (cI, L, .inl (nf ow))), (a2, .inl (cL, L, .inr (.inl ky))), (a6, .inl (cI, M, .inl (nf sn)))] s.heap := hP
  have hown : s.vm.findClass R_S = some m.cls := hown
  have hw : ∀ x ∈ WALL, x.before _ s = true := fun x h => hts x (List.mem_cons_of_mem _ h)
  have hl : lv_has ls 8 [(0, .ref f), (1, .int (nI o)), (2, .long k)] := hl
  refine lv_aload_n hx hb d_S_slotOf_0 rfl (lv_at hl 0 rfl) ?_
  refine va_get (D := (dC, dI)) (ci := 2) (v := .ref a6) (C := R_S) (T := T_S) (N := 7) hx hb hw in_S hown hK hP 0 rfl rfl 6 (by decide) (hw _ m_65) (fun _ h9 => h9) rfl d_S_slotOf_1 ?_
  refine fz_alen hx hb hK hP 3 0 rfl rfl d_S_slotOf_4 ?_
  refine lv_iconst (v := nI 1) hx hb d_S_slotOf_5 (by decide) ?_
  refine lv_isub hx hb d_S_slotOf_6 ?_
  refine fz_eqi (y := nI (M - 1)) (pk_sub (by omega)) ?_
  refine lv_istore (lv' := [(4, .int (nI (M - 1))), (0, .ref f), (1, .int (nI o)), (2, .long k)]) hx hb d_S_slotOf_7 hl (by decide) rfl (fun ls hl => ?_)
  refine lv_iload_n hx hb d_S_slotOf_9 rfl (lv_at hl 2 rfl) ?_
  refine lv_lload_n hx hb d_S_slotOf_10 rfl (lv_at hl 3 rfl) ?_
  refine QryI.callS (c_scatter l dC dI cI cL cB o k (by omega)) ⟨hx, hb, hml, hown, hw⟩ (fz_cwS 2 hw m_157 m_155 m_156 m_3 rfl rfl (by decide +kernel) ⟨Nat.le_of_ble_eq_true rfl, Nat.le_of_ble_eq_true rfl⟩) hK hP [] rfl rfl hl.1 rfl (Nat.le_of_ble_eq_true rfl) d_S_slotOf_11 ⟨(Nat.le_of_ble_eq_true rfl), (Nat.le_of_ble_eq_true rfl)⟩ (fun r11 h11 => ?_)
  subst h11
  refine lv_iload hx hb d_S_slotOf_14 (lv_at hl 0 rfl) ?_
  refine lv_iand hx hb d_S_slotOf_16 ?_
  refine fz_eqi (y := nI (hz_h M o k)) (hz_mask hM (by omega) _) ?_
  refine lv_istore (lv' := [(5, .int (nI (hz_h M o k))), (4, .int (nI (M - 1))), (0, .ref f), (1, .int (nI o)), (2, .long k)]) hx hb d_S_slotOf_17 hl (by decide) rfl (fun ls hl => ?_)
  refine lv_iconst (v := nI 0) hx hb d_S_slotOf_19 (by decide) ?_
  refine lv_istore (lv' := [(6, .int (nI 0)), (5, .int (nI (hz_h M o k))), (4, .int (nI (M - 1))), (0, .ref f), (1, .int (nI o)), (2, .long k)]) hx hb d_S_slotOf_20 hl (by decide) rfl (fun ls hl => ?_)
  have loop_22 : ∀ (fuel : Nat) (d : Nat) (sl : Nat), sl = (hz_h M o k + d) % M → d ≤ M → (∀ d', d' < d → sn ((hz_h M o k + d') % M) ≠ 0 ∧ ¬ (ow (sn ((hz_h M o k + d') % M)) = o ∧ ky (sn ((hz_h M o k + d') % M)) = k)) → M - d < fuel → ∀ (ls : Array Slot), lv_has ls 8 [(0, .ref f), (1, .int (nI o)), (2, .long k), (4, .int (nI (M - 1))), (5, .int (nI sl)), (6, .int (nI d))] → W p l e { frames := 1, cells := 0, slots := 0, locals := 24 } s m [.ref f, .int (nI o), .long k].toArray below meth c s.heap [] 0 0 Z (F0 m 22 ls []) := by
    intro fuel
    induction fuel with
    | zero => intro d sl hsl hd hbb hfuel; exact absurd hfuel (Nat.not_lt_zero _)
    | succ fuel ih =>
      intro d sl hsl hd hbb hfuel ls hl
      refine lv_iload hx hb d_S_slotOf_22 (lv_at hl 5 rfl) ?_
      refine lv_iload hx hb d_S_slotOf_24 (lv_at hl 3 rfl) ?_
      refine lv_icmp_gt (tgt := 84) hx hb d_S_slotOf_26 (by decide) (fun c26 => ?_) (fun c26 => ?_)
      · have c26 : M - 1 < d := by exact (nI_ltI (by omega) (by omega)).mp c26
        exact absurd (fun d' hd' => (hbb d' (by omega)).1) (hT.free hnM (hz_h M o k))
      · have c26 : ¬ M - 1 < d := fun h => c26 (by exact (nI_ltI (by omega) (by omega)).mpr h)
        have hslM : sl < M := by rw [hsl]; exact Nat.mod_lt _ (by omega)
        have hsn : sn sl ≤ n := hT.1 sl hslM
        refine lv_aload_n hx hb d_S_slotOf_29 rfl (lv_at hl 0 rfl) ?_
        refine va_get (D := (dC, dI)) (ci := 2) (v := .ref a6) (C := R_S) (T := T_S) (N := 7) hx hb hw in_S hown hK hP 0 rfl rfl 6 (by decide) (hw _ m_65) (fun _ h9 => h9) rfl d_S_slotOf_30 ?_
        refine lv_iload hx hb d_S_slotOf_33 (lv_at hl 4 rfl) ?_
        refine fz_iald hx hb hK hP 3 0 rfl rfl (j := sl) (by omega) (by omega) d_S_slotOf_35 ?_
        refine lv_istore (lv' := [(7, .int (nI (sn sl))), (0, .ref f), (1, .int (nI o)), (2, .long k), (4, .int (nI (M - 1))), (5, .int (nI sl)), (6, .int (nI d))]) hx hb d_S_slotOf_36 hl (by decide) rfl (fun ls hl => ?_)
        refine lv_iload hx hb d_S_slotOf_38 (lv_at hl 0 rfl) ?_
        refine lv_if_eq (tgt := 66) hx hb d_S_slotOf_40 (by decide) (fun c40 => ?_) (fun c40 => ?_)
        · have c40 : sn sl = 0 := (nI_eq (by omega) (by omega)).mp (c40.trans nI_0.symm)
          refine lv_iload hx hb d_S_slotOf_66 (lv_at hl 5 rfl) ?_
          exact hret (nI sl) 68 ls ⟨d, by omega, by rw [hsl], fun d' hd' => (hbb d' hd').1, hT.stop hU rfl (by omega) hbb (by rw [← hsl]; exact (by first | exact Or.inl c40 | exact Or.inr ⟨c63, c52⟩))⟩ d_S_slotOf_68
        · have c40 : ¬ sn sl = 0 := fun h => c40 (((nI_eq (by omega) (by omega)).mpr h).trans nI_0)
          refine lv_aload_n hx hb d_S_slotOf_43 rfl (lv_at hl 1 rfl) ?_
          refine va_get (D := (dC, dI)) (ci := 2) (v := .ref a2) (C := R_S) (T := T_S) (N := 7) hx hb hw in_S hown hK hP 0 rfl rfl 2 (by decide) (hw _ m_57) (fun _ h9 => h9) rfl d_S_slotOf_44 ?_
          refine lv_iload hx hb d_S_slotOf_47 (lv_at hl 0 rfl) ?_
          refine fz_lald hx hb hK hP 2 1 rfl rfl (j := sn sl) (by omega) (by omega) d_S_slotOf_49 ?_
          refine lv_lload_n hx hb d_S_slotOf_50 rfl (lv_at hl 3 rfl) ?_
          refine W.lcmp hx hb d_S_slotOf_51 ?_
          refine lv_if_ne (tgt := 69) hx hb d_S_slotOf_52 (by decide) (fun c52 => ?_) (fun c52 => ?_)
          · have c52 : ¬ ky (sn sl) = k := fun h => c52 ((lg_cmp_eq _ _).mpr h)
            refine lv_iload hx hb d_S_slotOf_69 (lv_at hl 5 rfl) ?_
            refine lv_iconst (v := nI 1) hx hb d_S_slotOf_71 (by decide) ?_
            refine lv_iadd hx hb d_S_slotOf_72 ?_
            refine fz_eqi (y := nI (sl + 1)) (nI_add sl 1) ?_
            refine lv_iload hx hb d_S_slotOf_73 (lv_at hl 4 rfl) ?_
            refine lv_iand hx hb d_S_slotOf_75 ?_
            refine fz_eqi (y := nI ((sl + 1) % M)) (hz_maskN hM (by omega) (by omega)) ?_
            refine lv_istore (lv' := [(5, .int (nI ((sl + 1) % M))), (7, .int (nI (sn sl))), (0, .ref f), (1, .int (nI o)), (2, .long k), (4, .int (nI (M - 1))), (6, .int (nI d))]) hx hb d_S_slotOf_76 hl (by decide) rfl (fun ls hl => ?_)
            refine lv_iinc (v := nI (d + 1)) (lv' := [(6, .int (nI (d + 1))), (5, .int (nI ((sl + 1) % M))), (7, .int (nI (sn sl))), (0, .ref f), (1, .int (nI o)), (2, .long k), (4, .int (nI (M - 1)))]) hx hb d_S_slotOf_78 hl (k := 6) rfl (fz_inc d) (by decide) rfl (fun ls hl => ?_)
            refine lv_goto (tgt := 22) hx hb d_S_slotOf_81 (by decide) ?_
            exact ih (d + 1) ((sl + 1) % M) (by rw [hsl, Nat.mod_add_mod, Nat.add_assoc]) (by omega) (fun d' hd' => by
                  rcases Nat.lt_or_ge d' d with q | q
                  · exact hbb d' q
                  · have e : d' = d := by omega
                    subst e; rw [← hsl]; exact ⟨c40, by first | exact fun h => c52 h.2 | exact fun h => c63 h.1⟩) (by omega) ls (lv_sub hl [3, 4, 5, 6, 1, 0] rfl)
          · have c52 : ky (sn sl) = k := (lg_cmp_eq _ _).mp c52
            have hosn : ow (sn sl) < 2 ^ 20 := hO _ hsn
            refine lv_aload_n hx hb d_S_slotOf_55 rfl (lv_at hl 1 rfl) ?_
            refine va_get (D := (dC, dI)) (ci := 2) (v := .ref a1) (C := R_S) (T := T_S) (N := 7) hx hb hw in_S hown hK hP 0 rfl rfl 1 (by decide) (hw _ m_56) (fun _ h9 => h9) rfl d_S_slotOf_56 ?_
            refine lv_iload hx hb d_S_slotOf_59 (lv_at hl 0 rfl) ?_
            refine fz_iald hx hb hK hP 1 0 rfl rfl (j := sn sl) (by omega) (by omega) d_S_slotOf_61 ?_
            refine lv_iload_n hx hb d_S_slotOf_62 rfl (lv_at hl 2 rfl) ?_
            refine lv_icmp_ne (tgt := 69) hx hb d_S_slotOf_63 (by decide) (fun c63 => ?_) (fun c63 => ?_)
            · have c63 : ¬ ow (sn sl) = o := fun h => c63 (by exact (nI_eq (by omega) (by omega)).mpr h)
              refine lv_iload hx hb d_S_slotOf_69 (lv_at hl 5 rfl) ?_
              refine lv_iconst (v := nI 1) hx hb d_S_slotOf_71 (by decide) ?_
              refine lv_iadd hx hb d_S_slotOf_72 ?_
              refine fz_eqi (y := nI (sl + 1)) (nI_add sl 1) ?_
              refine lv_iload hx hb d_S_slotOf_73 (lv_at hl 4 rfl) ?_
              refine lv_iand hx hb d_S_slotOf_75 ?_
              refine fz_eqi (y := nI ((sl + 1) % M)) (hz_maskN hM (by omega) (by omega)) ?_
              refine lv_istore (lv' := [(5, .int (nI ((sl + 1) % M))), (7, .int (nI (sn sl))), (0, .ref f), (1, .int (nI o)), (2, .long k), (4, .int (nI (M - 1))), (6, .int (nI d))]) hx hb d_S_slotOf_76 hl (by decide) rfl (fun ls hl => ?_)
              refine lv_iinc (v := nI (d + 1)) (lv' := [(6, .int (nI (d + 1))), (5, .int (nI ((sl + 1) % M))), (7, .int (nI (sn sl))), (0, .ref f), (1, .int (nI o)), (2, .long k), (4, .int (nI (M - 1)))]) hx hb d_S_slotOf_78 hl (k := 6) rfl (fz_inc d) (by decide) rfl (fun ls hl => ?_)
              refine lv_goto (tgt := 22) hx hb d_S_slotOf_81 (by decide) ?_
              exact ih (d + 1) ((sl + 1) % M) (by rw [hsl, Nat.mod_add_mod, Nat.add_assoc]) (by omega) (fun d' hd' => by
                    rcases Nat.lt_or_ge d' d with q | q
                    · exact hbb d' q
                    · have e : d' = d := by omega
                      subst e; rw [← hsl]; exact ⟨c40, by first | exact fun h => c52 h.2 | exact fun h => c63 h.1⟩) (by omega) ls (lv_sub hl [3, 4, 5, 6, 1, 0] rfl)
            · have c63 : ow (sn sl) = o := by exact (nI_eq (by omega) (by omega)).mp c63
              refine lv_iload hx hb d_S_slotOf_66 (lv_at hl 5 rfl) ?_
              exact hret (nI sl) 68 ls ⟨d, by omega, by rw [hsl], fun d' hd' => (hbb d' hd').1, hT.stop hU rfl (by omega) hbb (by rw [← hsl]; exact (by first | exact Or.inl c40 | exact Or.inr ⟨c63, c52⟩))⟩ d_S_slotOf_68
  exact loop_22 (M - 0 + 1) 0 (hz_h M o k) (by rw [Nat.add_zero]; exact (Nat.mod_eq_of_lt (hz_h_lt (by omega))).symm) (by omega) (fun d' hd' => absurd hd' (Nat.not_lt_zero _)) (Nat.lt_succ_self _) ls (lv_sub hl [3, 4, 5, 2, 1, 0] rfl)
set_option maxHeartbeats 4000000 in
set_option maxRecDepth 100000 in
/-- find: the field of a key, or 0 -/
theorem c_find (l : Launch) (dC : Nat → ClassId) (dI : Nat → Nat → Nat) (cI cL cB : ClassId) (f : Nat) (a1 : Nat) (a2 : Nat) (a3 : Nat) (a4 : Nat) (a5 : Nat) (a6 : Nat) (cnt : Nat) (L : Nat) (M : Nat) (kap : Nat) (n : Nat) (t : Nat) (kk : Nat) (k : Int64) (ow : Nat → Nat) (sn : Nat → Nat) (ky : Nat → Int64) (hn : n < L) (hL : L < 2 ^ 20) (hM : M = 2 ^ kap) (hM2 : M < 2 ^ 20) (hnM : n < M) (ht : t < 2 ^ 16) (hk : kk < 8) (hO : ∀ i, i ≤ n → ow i < 2 ^ 20) (hU : hz_U n ow ky) (hT : hz_T M n (fun i => hz_h M (ow i) (ky i)) sn) : QryI l y_S_find (wd y_S_find b_S_find 5 (some .int)) 2 51 (dC, dI) classes (tyK cI cL cB) [.ref f, .int (nI t), .int (nI kk), .long k] [(f, .inr (2, [.int (nI cnt), .ref a1, .ref a2, .ref a3, .ref a4, .ref a5, .ref a6])), (a1, .inl (cI, L, .inl (nf ow))), (a2, .inl (cL, L, .inr (.inl ky))), (a6, .inl (cI, M, .inl (nf sn)))] (fun r : Int32 => r = nI (fnd ow ky (t * 8 + kk) k n)) := by
  refine QryI.mk (cc := b_S_find) (maxL := 5) (by decide) rfl (Nat.le_of_ble_eq_true rfl) ?_
  intro p e s m below meth c Z ls hx hb hml hown hts hP hK hret hl
  have hP : va_P (dC, dI) classes [(f, .inr (2, [.int (nI cnt), .ref a1, .ref a2, .ref a3, .ref a4, .ref a5, .ref a6])), (a1, .inl (cI, L, .inl (nf ow))), (a2, .inl (cL, L, .inr (.inl ky))), (a6, .inl (cI, M, .inl (nf sn)))] s.heap := hP
  have hown : s.vm.findClass R_S = some m.cls := hown
  have hw : ∀ x ∈ WALL, x.before _ s = true := fun x h => hts x (List.mem_cons_of_mem _ h)
  have hl : lv_has ls 5 [(0, .ref f), (1, .int (nI t)), (2, .int (nI kk)), (3, .long k)] := hl
  refine lv_aload_n hx hb d_S_find_0 rfl (lv_at hl 0 rfl) ?_
  refine va_get (D := (dC, dI)) (ci := 2) (v := .ref a6) (C := R_S) (T := T_S) (N := 7) hx hb hw in_S hown hK hP 0 rfl rfl 6 (by decide) (hw _ m_65) (fun _ h9 => h9) rfl d_S_find_1 ?_
  refine lv_aload_n hx hb d_S_find_4 rfl (lv_at hl 0 rfl) ?_
  refine lv_iload_n hx hb d_S_find_5 rfl (lv_at hl 1 rfl) ?_
  refine lv_iload_n hx hb d_S_find_6 rfl (lv_at hl 2 rfl) ?_
  refine QryI.callS (c_owner l dC dI cI cL cB t kk (by omega) (by omega)) ⟨hx, hb, hml, hown, hw⟩ (fz_cwS 2 hw m_150 m_148 m_149 m_3 rfl rfl (by decide +kernel) ⟨Nat.le_of_ble_eq_true rfl, Nat.le_of_ble_eq_true rfl⟩) hK hP [] rfl rfl hl.1 rfl (Nat.le_of_ble_eq_true rfl) d_S_find_7 ⟨(Nat.le_of_ble_eq_true rfl), (Nat.le_of_ble_eq_true rfl)⟩ (fun r7 h7 => ?_)
  subst h7
  refine lv_lload_n hx hb d_S_find_10 rfl (lv_at hl 3 rfl) ?_
  refine QryI.callV (ci := 2) (q0 := 0) (c_slotOf l dC dI cI cL cB f a1 a2 a3 a4 a5 a6 cnt L M kap n (t * 8 + kk) k ow sn ky (by omega) (by omega) hM (by omega) (by omega) (by omega) hO hU hT) ⟨hx, hb, hml, hown, hw⟩ (fz_cwV 2 hw m_154 m_151 m_153 ms_1 m_3 rfl rfl (by decide +kernel) ⟨Nat.le_of_ble_eq_true rfl, Nat.le_of_ble_eq_true rfl⟩) hK hP [0, 1, 2, 3] rfl rfl rfl rfl rfl hl.1 rfl (Nat.le_of_ble_eq_true rfl) d_S_find_11 ⟨(Nat.le_of_ble_eq_true rfl), (Nat.le_of_ble_eq_true rfl)⟩ (fun r11 h11 => ?_)
  obtain ⟨d, hd, e11, hbb, hv⟩ := h11
  subst e11
  refine fz_iald hx hb hK hP 3 0 rfl rfl (j := (hz_h M (t * 8 + kk) k + d) % M) (Nat.mod_lt _ (by omega)) (by omega) d_S_find_14 ?_
  exact hret (nI (sn ((hz_h M (t * 8 + kk) k + d) % M))) 15 ls (by rw [hv]) d_S_find_15
