theorem fPut_le {nT : Nat} {a : AS} (h : AI nT a) (x kk : Int32) (k : Int64) (vk : Int32) (vn : Int64) : aN (fPut nT a x kk k vk vn).2 ≤ 40000 := by
  have h4 := h.1
  by_cases q : okT nT x ∧ okT 7 kk ∧ okV vk
  · unfold fPut; rw [ifc_pos q]; unfold fPutG
    by_cases z : tN vk ≠ 0 ∧ aN a = 40000 ∧ aF a (tN x * 8 + tN kk) k = 0
    · rw [if_pos z]; exact h4
    · rw [if_neg z]
      show aN (giveA _ _ _ _ _) ≤ 40000
      rw [giveA_N]
      rcases Nat.lt_or_ge (aN a) 40000 with y | y
      · have := comeA_le a (tN x * 8 + tN kk) k (tN vk); omega
      · by_cases e : tN vk = 0
        · rw [e, comeA_k0]; omega
        · rw [comeA_0 (fun e2 => z ⟨e, by omega, e2⟩)]; omega
  · unfold fPut; rw [ifc_neg q]; exact h4
theorem fFill_le {nT : Nat} {a : AS} (h : AI nT a) (x : Int32) (frm : Int64) (n st : Int32) : aN (fFill nT a x frm n st).2 ≤ 40000 := by
  have h4 := h.1
  by_cases q : okRun nT x frm n st
  · unfold fFill; rw [ifc_pos q]; unfold fFillG
    obtain ⟨⟨t, ht1, ht2, ext⟩, ⟨nn, hnn, exn⟩, ⟨ss, hs1, hs2, exs⟩, hf1, hf2⟩ := q
    rw [exn, exs, tN_nI (by omega), tN_nI (by omega)]
    by_cases z : 40000 < aN a + missA a (tN x) frm ss nn
    · rw [if_pos z]; exact h4
    · rw [if_neg z]
      show aN (runA _ _ _ _ _) ≤ 40000
      rw [runA_N hs1 hs2 nn (by omega)]; omega
  · unfold fFill; rw [ifc_neg q]; exact h4
theorem fClear_le {nT : Nat} {a : AS} (h : AI nT a) (x : Int32) (frm : Int64) (n st : Int32) : aN (fClear nT a x frm n st).2 ≤ 40000 := by
  have h4 := h.1
  by_cases q : okRun nT x frm n st
  · unfold fClear; rw [ifc_pos q]
    show aN (clrA _ _ _ _ _) ≤ 40000
    rw [clrA_N]; exact h4
  · unfold fClear; rw [ifc_neg q]; exact h4
theorem fCopy_le {nT : Nat} {a : AS} (h : AI nT a) (hn : nT ≤ 30000) (x y : Int32) : aN (fCopy nT a x y).2 ≤ 40000 := by
  have h4 := h.1
  by_cases q : okT nT x ∧ okT nT y
  · unfold fCopy; rw [ifc_pos q]; unfold fCopyG
    obtain ⟨⟨t, ht1, ht2, ext⟩, -⟩ := q
    rw [ext, tN_nI (by omega)]
    by_cases z : 40000 < aN a + mcA a t (tN y) (aN a)
    · rw [if_pos z]; exact h4
    · rw [if_neg z]
      show aN (cpA _ _ _ _) ≤ 40000
      rw [(cpA_all (fr := tN y) h hn ht1 ht2 (aN a) (Nat.le_refl _) (by omega)).2.1]; omega
  · unfold fCopy; rw [ifc_neg q]; exact h4
theorem fRemove_le {nT : Nat} {a : AS} (h : AI nT a) (hn : nT ≤ 30000) (x i : Int32) : aN (fRemove nT a x i).2 ≤ 40000 := by
  have h4 := h.1
  by_cases q : okT nT x ∧ okT (bd a (tN x) + 1) i
  · unfold fRemove; rw [ifc_pos q]
    obtain ⟨⟨t, ht1, ht2, ext⟩, ⟨ii, hi1, hi2, exi⟩⟩ := q
    have hbi := bd_is (t := t) h
    have hbn := hbi.le h
    rw [ext, tN_nI (by omega)] at hi2
    show aN (rmA _ _ _) ≤ 40000
    rw [ext, exi, tN_nI (by omega), tN_nI (by omega)]
    unfold rmA
    by_cases z : ii ≤ bd a t
    · rw [if_pos z, giveA_N, comeA_k0, (dwB_ok h hn ht1 ht2 hi1 hbi.1 _ (Nat.le_refl _)).2.2]; omega
    · rw [if_neg z]; exact h4
  · unfold fRemove; rw [ifc_neg q]; exact h4
theorem fInsert_le {nT : Nat} {a : AS} (h : AI nT a) (hn : nT ≤ 30000) (x i vk : Int32) (vn : Int64) : aN (fInsert nT a x i vk vn).2 ≤ 40000 := by
  have h4 := h.1
  by_cases q : (okT nT x ∧ okT (bd a (tN x) + 1) i) ∧ okV vk
  · unfold fInsert; rw [ifc_pos q]; unfold fInsertG
    obtain ⟨⟨⟨t, ht1, ht2, ext⟩, ⟨ii, hi1, hi2, exi⟩⟩, -⟩ := q
    have hbi := bd_is (t := t) h
    have hbn := hbi.le h
    rw [ext, tN_nI (by omega)] at hi2
    rw [ext, exi, tN_nI (by omega), tN_nI (by omega)]
    generalize tN vk = d
    by_cases z : (ii ≤ bd a t ∨ d ≠ 0) ∧ aN a = 40000 ∧ aF a (t * 8 + 3) (lN (bd a t + 1)) = 0
    · rw [if_pos z]; exact h4
    · rw [if_neg z]
      show aN (giveA _ _ _ _ _) ≤ 40000
      have hr8 : ii ≤ bd a t → aN a + comeA a (t * 8 + 3) (lN (bd a t + 1)) (vD a (t * 8 + 3) (lN (bd a t))) ≤ 40000 := fun hle => by
        rcases Nat.lt_or_ge (aN a) 40000 with y | y
        · have := comeA_le a (t * 8 + 3) (lN (bd a t + 1)) (vD a (t * 8 + 3) (lN (bd a t))); omega
        · rw [comeA_0 (fun e2 => z ⟨Or.inl hle, by omega, e2⟩)]; omega
      have hqE := upB_ok h hn ht1 ht2 hi1 hbi.1 hr8 (bd a t + 1 - ii) (Nat.le_refl _)
      rw [giveA_N]
      rcases Nat.lt_or_ge (bd a t) ii with y | y
      · rw [show bd a t + 1 - ii = 0 by omega]
        show aN a + comeA a _ _ _ ≤ 40000
        by_cases e : d = 0
        · rw [e, comeA_k0]; omega
        · rcases Nat.lt_or_ge (aN a) 40000 with w | w
          · have := comeA_le a (t * 8 + 3) (lN ii) d; omega
          · rw [show ii = bd a t + 1 by omega, comeA_0 (fun e2 => z ⟨Or.inr e, by omega, e2⟩)]; omega
      · rw [comeA_0 (wK_F hqE.1 (hqE.2.1 ii (Nat.le_refl _) y))]; have := hqE.1.1; omega
  · unfold fInsert; rw [ifc_neg q]; exact h4
theorem Gs_top : ∀ g, g ≤ 5 → Gs g ≤ 1500000 := by decide +kernel
theorem Rs_top : ∀ g, g ≤ 11 → Rs g ≤ 1000000 := by decide +kernel
theorem Ms_top : ∀ g, g ≤ 10 → Ms g ≤ 1000000 := by decide +kernel
theorem Mt_top : ∀ g, g ≤ 10 → Mt g ≤ 200000 := by decide +kernel
theorem lw_Rs {g n : Nat} : Rs g ≤ Rs (gR g n) := by
  unfold gR; split
  · exact Nat.le_refl _
  · show Rs g ≤ Rs g + _; omega
theorem lw_Mt {g n : Nat} : Mt g ≤ Mt (mR g n) := by
  unfold mR; split
  · exact Nat.le_refl _
  · show Mt g ≤ Mt g + _; omega
theorem gR_ge {g n : Nat} : g ≤ gR g n := by unfold gR; split <;> omega
theorem mR_ge {g n : Nat} : g ≤ mR g n := by unfold mR; split <;> omega
theorem gR_le {g nT : Nat} (h : g ≤ 11) (hn : nT ≤ 30000) (hr : nT < hz_R g) : gR g (fMake nT).2 ≤ 11 := by
  unfold fMake
  by_cases z : nT = 30000
  · rw [if_pos z]; show gR g nT ≤ 11; rw [gR_same h hr]; exact h
  · rw [if_neg z]; show gR g (nT + 1) ≤ 11
    unfold gR
    by_cases y : nT + 1 < hz_R g
    · rw [if_pos y]; exact h
    · rw [if_neg y]
      rcases Nat.lt_or_ge g 11 with w | w
      · omega
      · have e : g = 11 := by omega
        rw [e, show hz_R 11 = 30001 by decide +kernel] at y; omega
theorem mR_le {g nT : Nat} (h : g ≤ 10) (hn : nT ≤ 30000) (hr : nT < md_R g) : mR g (fMake nT).2 ≤ 10 := by
  unfold fMake
  by_cases z : nT = 30000
  · rw [if_pos z]; show mR g nT ≤ 10; rw [mR_same hr]; exact h
  · rw [if_neg z]; show mR g (nT + 1) ≤ 10
    unfold mR
    by_cases y : nT + 1 < md_R g
    · rw [if_pos y]; exact h
    · rw [if_neg y]
      rcases Nat.lt_or_ge g 10 with w | w
      · omega
      · have e : g = 10 := by omega
        rw [e, show md_R 10 = 32768 by decide +kernel] at y; omega
/-- nothing yet -/
def e0 : AS := (0, fun _ => 0, fun _ => 0, fun _ => 0, fun _ => 0)
theorem law_key : ∀ L, L < 8 → ∀ i, i < 8 → nI L - nI 8 < nI i := by decide +kernel
theorem law_sw (x : Int32) : ∃ k, k < 32 ∧ x &&& nI 31 = nI k := ⟨_, Nat.mod_lt _ (by decide), hz_mask (M := 32) (kap := 5) (by decide) (by decide) x⟩
theorem law_go {L i : Nat} (hL : L ≤ 4096) (hi : i ≤ L) (h : ¬ (nI L - nI 8 < nI i)) : i + 8 ≤ L := by
  rcases Nat.lt_or_ge L 8 with q | q
  · exact absurd (law_key L q i (by omega)) h
  · rw [pk_sub (by omega)] at h
    rcases Nat.lt_or_ge (L - 8) i with z | z
    · exact absurd (nI_lt z (by omega)) h
    · omega
theorem e0_AI : AI 0 e0 := ⟨by decide, fun i i1 (i2 : i ≤ 0) => by omega, fun i => Nat.zero_le 7, rfl, rfl, fun i i1 i2 => rfl, fun i j i1 (i2 : i ≤ 0) => by omega, fun i => by show (0 : Nat) < 2 ^ 18; decide⟩
theorem e0_CI : CI 0 e0 0 0 (fun _ => 0) (fun _ => 0) (fun _ => 0) (fun _ => 0) (fun _ => 0) (fun _ => 0) (fun _ => 0) (fun _ => 0) (fun _ => 0) (fun _ => 0) (fun _ => 0) :=
  ⟨⟨e0_AI, by omega, by omega, by decide, fun i _ => ⟨rfl, rfl, rfl, rfl⟩, fun i => by show (0 : Nat) < 128; decide, ⟨fun j hj => Nat.le_refl 0, fun j j' _ _ _ h => absurd rfl h, fun i i1 (i2 : i ≤ 0) => by omega⟩⟩, ⟨fun i i1 (i2 : i ≤ 0) => by omega, fun t t1 t2 => by omega⟩, by omega, by decide⟩
theorem e0_MI : MI 0 e0 0 0 (fun _ => 0) (fun _ => 0) (fun _ => 0) (fun _ => 0) (fun _ => 0) (fun _ => 0) (fun _ => 0) (fun _ => 0) (fun _ => 0) (fun _ => 0) (fun _ => 0) :=
  ⟨⟨e0_AI, by omega, by omega, by decide, fun i i1 (i2 : i ≤ 0) => by omega, fun _ => by show (0 : Nat) < 128; decide, fun _ => Nat.zero_le 7, fun _ _ => rfl, fun c hc => Or.inl ⟨rfl, fun m m1 (m2 : m ≤ 0) => by omega⟩, fun i i1 (i2 : i ≤ 0) => by omega⟩, ⟨fun i i1 (i2 : i ≤ 0) => by omega, fun t t1 t2 => by omega, fun t _ => ⟨rfl, rfl, rfl⟩⟩, by omega, by decide⟩
section LawRows
variable {p : Program} {l : Launch} {e : Env} {R : Room} {s : State} {m : MethodId} {args : Array Value} {below : List Frame} {meth : Method} {c : Code} {H H0 : Heap} {locs : List Loc} {cells slots : Nat} {Q : State → Prop} {cc : ByteArray} {pc : Nat} {ls : Array Slot} {rest : List Value} {A : Nat → Prop}
theorem fz_sld (hx : p.tables.exec = Jvm.exec) (hb : c.code = cc) {b L : Nat} {xs : Nat → Int32} (hX : va_X b L xs s H0) (hbl : b < H0.size) (hbA : ¬ A b) (hS : va_S A H0 H locs) {j : Nat} (hj : j < L) (hL : L ≤ 4096) (hdg : decode cc pc = .ok (.iaload, 1)) (kk : W p l e R s m args below meth c H locs cells slots Q (F0 m (pc + 1) ls (.int (xs j) :: rest))) : W p l e R s m args below meth c H locs cells slots Q (F0 m pc ls (.int (nI j) :: .ref b :: rest)) :=
  va_sld hx hb hX hbl hbA hS (vp_in_nI hj (by omega)) hdg (by rw [nI_clamp (by omega)]; exact kk)
theorem fz_slen (hx : p.tables.exec = Jvm.exec) (hb : c.code = cc) {b L : Nat} {xs : Nat → Int32} (hX : va_X b L xs s H0) (hbl : b < H0.size) (hbA : ¬ A b) (hS : va_S A H0 H locs) (hdg : decode cc pc = .ok (.arraylength, 1)) (kk : W p l e R s m args below meth c H locs cells slots Q (F0 m (pc + 1) ls (.int (nI L) :: rest))) : W p l e R s m args below meth c H locs cells slots Q (F0 m pc ls (.ref b :: rest)) :=
  va_slen hx hb hX hbl hbA hS hdg kk
end LawRows
theorem fz_inc8 (k : Nat) : nI k + Int32.ofInt 8 = nI (k + 8) := by
  rw [show Int32.ofInt 8 = nI 8 by decide]; exact nI_add k 8
