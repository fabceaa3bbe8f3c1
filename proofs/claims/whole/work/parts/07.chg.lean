theorem wB_le {nT : Nat} {a : AS} {t b : Nat} (h : AI nT a) (hb : ∀ k, 1 ≤ k → k ≤ b → wK a t k ≠ 0) : b ≤ aN a := by
  rcases Nat.lt_or_ge (aN a) b with q | q
  · have h40 := h.1
    have nz : ∀ j, j < aN a + 1 → aF a (t * 8 + 3) (lN (j + 1)) ≠ 0 := fun j hj e => by
      have := hb (j + 1) (by omega) (by omega)
      unfold wK at this
      rw [e, h.2.2.2.1] at this
      exact this rfl
    have := hz_pigeon (aN a) (aN a + 1) (fun j => aF a (t * 8 + 3) (lN (j + 1))) (fun j hj => ⟨Nat.pos_of_ne_zero (nz j hj), aF_le _ _ _⟩) (fun i j hi hj e => by
      have e : aF a (t * 8 + 3) (lN (i + 1)) = aF a (t * 8 + 3) (lN (j + 1)) := e
      have a1 := (aF_hit (nz i hi)).2
      have a2 := (aF_hit (nz j hj)).2
      rw [e, a2] at a1
      have := lN_ne (by omega) (by omega) a1
      omega)
    omega
  · exact q
theorem lN_of {k : Int64} {b : Nat} (hb : b < 2 ^ 31) (h1 : ¬ k < lN 1) (h2 : ¬ lN b < k) : ∃ j, 1 ≤ j ∧ j ≤ b ∧ k = lN j := by
  rw [Int64.lt_iff_toInt_lt, pk_lT (by omega)] at h1 h2
  refine ⟨k.toInt.toNat, by omega, by omega, ?_⟩
  apply Int64.toInt_inj.mp
  rw [pk_lT (by omega)]; omega
theorem wK_set (a : AS) (i kd : Nat) (v : Int64) (t j : Nat) : wK (setA a i kd v) t j = if aF a (t * 8 + 3) (lN j) = i then kd else wK a t j := rfl
section Set
variable {nT i kd t b : Nat} {a : AS} {v : Int64}
theorem isB.same (hb : isB a t b) (hz : kd = 0 ↔ aD a i = 0) : isB (setA a i kd v) t b := by
  refine ⟨fun j h1 h2 => ?_, ?_⟩
  · rw [wK_set]; split
    · rename_i e
      have := hb.1 j h1 h2
      unfold wK at this
      rw [e] at this
      exact fun z => this (hz.mp z)
    · exact hb.1 j h1 h2
  · rw [wK_set]; split
    · rename_i e
      have := hb.2
      unfold wK at this
      rw [e] at this
      exact hz.mpr this
    · exact hb.2
theorem isB.off (hi : 1 ≤ i) (hb : isB a t b) (ho : aO a i ≠ t * 8 + 3) : isB (setA a i kd v) t b := by
  have q : ∀ j, aF a (t * 8 + 3) (lN j) ≠ i := fun j e => ho (by rw [← e]; exact (aF_hit (by omega)).1)
  refine ⟨fun j h1 h2 => ?_, ?_⟩
  · rw [wK_set, if_neg (q j)]; exact hb.1 j h1 h2
  · rw [wK_set, if_neg (q _)]; exact hb.2
theorem isB.up1 (hb : isB a t b) (hk : kd ≠ 0) : ∀ j, 1 ≤ j → j ≤ b → wK (setA a i kd v) t j ≠ 0 := fun j h1 h2 => by
  rw [wK_set]; split
  · exact hk
  · exact hb.1 j h1 h2
theorem aF_self (h : AI nT a) (hi : 1 ≤ i) (hn : i ≤ aN a) : aF a (aO a i) (aK a i) = i := fnd_uniq h.2.2.2.2.2.2.1 hi hn rfl rfl
theorem isB.up2 (h : AI nT a) (hi : 1 ≤ i) (hn : i ≤ aN a) (ho : aO a i = t * 8 + 3) (hk : kd ≠ 0) (e : aK a i = lN (b + 1)) : wK (setA a i kd v) t (b + 1) ≠ 0 := by
  rw [wK_set, if_pos (by rw [← ho, ← e]; exact aF_self h hi hn)]; exact hk
theorem isB.up3 (hi : 1 ≤ i) (hb : isB a t b) (hk : kd ≠ 0) (e : aK a i ≠ lN (b + 1)) : isB (setA a i kd v) t b := by
  refine ⟨hb.up1 hk, ?_⟩
  rw [wK_set, if_neg (fun c => e (by rw [← c]; exact (aF_hit (by omega)).2))]; exact hb.2
theorem isB.dn1 (h : AI nT a) (hi : 1 ≤ i) (hn : i ≤ aN a) (ho : aO a i = t * 8 + 3) (hb : isB a t b) {j : Nat} (h1 : 1 ≤ j) (h2 : j ≤ b) (e : aK a i = lN j) : isB (setA a i 0 v) t (j - 1) := by
  have hle := hb.le h
  have h40 := h.1
  refine ⟨fun m m1 m2 => ?_, ?_⟩
  · rw [wK_set, if_neg (fun c => by
      have := (aF_hit (a := a) (o := t * 8 + 3) (k := lN m) (by omega)).2
      rw [c, e] at this
      have := lN_ne (by omega) (by omega) this
      omega)]; exact hb.1 m m1 (by omega)
  · rw [show j - 1 + 1 = j by omega, wK_set, if_pos (by rw [← ho, ← e]; exact aF_self h hi hn)]
theorem isB.dn2 (hi : 1 ≤ i) (hb : isB a t b) (e : ∀ j, 1 ≤ j → j ≤ b → aK a i ≠ lN j) : isB (setA a i 0 v) t b := by
  refine ⟨fun m m1 m2 => ?_, ?_⟩
  · rw [wK_set, if_neg (fun c => e m m1 m2 (by rw [← c]; exact (aF_hit (by omega)).2))]; exact hb.1 m m1 m2
  · rw [wK_set]; split
    · rfl
    · exact hb.2
end Set
theorem CS.set {nT g i kind : Nat} {a : AS} {ow : Nat → Nat} {ky : Nat → Int64} {kd : Nat → Nat} {nu : Nat → Int64} {sn : Nat → Nat} {v : Int64} (h : CS nT a g ow ky kd nu sn) (hi : 1 ≤ i) (hk : kind ≤ 7) (hz : kind = 0 → v = 0) : CS nT (setA a i kind v) g ow ky (va_up kd i kind) (vp_updL nu i v) sn := by
  obtain ⟨h1, h2, h3, h4, h5, h6, h7⟩ := h
  refine ⟨h1.set hi hk hz, h2, h3, h4, fun j hj => ?_, fun j => ?_, h7⟩
  · obtain ⟨q1, q2, q3, q4⟩ := h5 j hj
    refine ⟨q1, q2, ?_, ?_⟩
    · show va_up kd i kind j = va_up (aD a) i kind j
      unfold va_up; split
      · rfl
      · exact q3
    · show vp_updL nu i v j = va_up (aU a) i v j
      unfold vp_updL va_up; split
      · rfl
      · exact q4
  · unfold va_up; split
    · omega
    · exact h6 j
theorem CT.set {nT i kind : Nat} {a : AS} {v : Int64} {fo fi la kc vc bo vc2 bo2 : Nat → Nat} (h : CT nT a fo fi la kc vc bo) (hv : ∀ t, 1 ≤ t → t ≤ nT → vc2 t = cV (setA a i kind v) t) (hb : ∀ t, 1 ≤ t → t ≤ nT → isB (setA a i kind v) t (bo2 t)) : CT nT (setA a i kind v) fo fi la kc vc2 bo2 :=
  ⟨h.1, fun t h1 h2 => ⟨(h.2 t h1 h2).1, (h.2 t h1 h2).2.1, (h.2 t h1 h2).2.2.1, hv t h1 h2, hb t h1 h2⟩⟩
section Cnt
variable {nT i kind : Nat} {a : AS} {v : Int64} {fo fi la kc vc bo : Nat → Nat}
theorem CT.v0 (h : CT nT a fo fi la kc vc bo) (hi : 1 ≤ i) (hn : i ≤ aN a) (hz : kind = 0 ↔ aD a i = 0) : ∀ t, 1 ≤ t → t ≤ nT → vc t = cV (setA a i kind v) t := fun t h1 h2 => by
  have e := cV_set hi hn kind v t
  rw [(h.2 t h1 h2).2.2.2.1]
  by_cases q : aO a i / 8 = t
  · by_cases z : kind = 0
    · rw [if_neg (fun c => c.2 (hz.mp z)), if_neg (fun c => c.2 z)] at e; omega
    · rw [if_pos ⟨q, fun c => z (hz.mpr c)⟩, if_pos ⟨q, z⟩] at e; omega
  · rw [if_neg (fun c => q c.1), if_neg (fun c => q c.1)] at e; omega
theorem CT.v1 (h : CT nT a fo fi la kc vc bo) (hi : 1 ≤ i) (hn : i ≤ aN a) (h0 : aD a i = 0) (hk : kind ≠ 0) : ∀ t, 1 ≤ t → t ≤ nT → va_up vc (aO a i / 8) (vc (aO a i / 8) + 1) t = cV (setA a i kind v) t := fun t h1 h2 => by
  have e := cV_set hi hn kind v t
  have q := (h.2 t h1 h2).2.2.2.1
  unfold va_up
  by_cases z : t = aO a i / 8
  · rw [if_neg (fun c => c.2 h0), if_pos ⟨z.symm, hk⟩] at e
    rw [if_pos z, ← z]; omega
  · rw [if_neg (fun c => z c.1.symm), if_neg (fun c => z c.1.symm)] at e
    rw [if_neg z]; omega
theorem CT.v2 (h : CT nT a fo fi la kc vc bo) (hi : 1 ≤ i) (hn : i ≤ aN a) (h0 : aD a i ≠ 0) : ∀ t, 1 ≤ t → t ≤ nT → va_up vc (aO a i / 8) (vc (aO a i / 8) - 1) t = cV (setA a i 0 v) t := fun t h1 h2 => by
  have e := cV_set hi hn 0 v t
  have q := (h.2 t h1 h2).2.2.2.1
  unfold va_up
  by_cases z : t = aO a i / 8
  · rw [if_pos ⟨z.symm, h0⟩, if_neg (fun c => c.2 rfl)] at e
    rw [if_pos z, ← z]; omega
  · rw [if_neg (fun c => z c.1.symm), if_neg (fun c => z c.1.symm)] at e
    rw [if_neg z]; omega
theorem cV_pos {t : Nat} (hi : 1 ≤ i) (hn : i ≤ aN a) (ht : aO a i / 8 = t) (h0 : aD a i ≠ 0) : 0 < cV a t := by
  have := cnt_lt (p := fun j => aO a j / 8 == t && aD a j != 0) hi hn (by show (aO a i / 8 == t && aD a i != 0) = true; rw [ht, beq_self_eq_true, bne_iff_ne.mpr h0]; rfl)
  unfold cV; omega
theorem CT.b (h : CT nT a fo fi la kc vc bo) {t : Nat} (h1 : 1 ≤ t) (h2 : t ≤ nT) : isB a t (bo t) := (h.2 t h1 h2).2.2.2.2
end Cnt
