theorem okT_nle {n : Nat} {x : Int32} (hn : n < 2 ^ 31) (h : ¬ x ≤ nI n) : ¬ okT n x := fun ⟨j, h1, h2, e⟩ => h (by rw [e]; exact nI_le h2 hn)
theorem okV_nle {x : Int32} (h : ¬ x ≤ nI 7) : ¬ okV x := fun ⟨j, h1, e⟩ => h (by rw [e]; exact nI_le h1 (by omega))
theorem fN_le {nT : Nat} {a : AS} {x kk : Int32} {k : Int64} (h : AI nT a) (hn : nT ≤ 30000) (hz : fKindAt nT a x kk k ≤ 0) : fNumberAt nT a x kk k = 0 := by
  unfold fKindAt at hz
  unfold fNumberAt
  by_cases q : okT nT x ∧ okT 7 kk
  · rw [ifc_pos q] at hz ⊢
    have h7 := vD_le h (tN x * 8 + tN kk) k
    have e : vD a (tN x * 8 + tN kk) k = 0 := by
      rw [← nI_0] at hz
      have := (nI_leI (by omega) (by omega)).mp hz
      omega
    exact h.2.2.2.2.2.1 _ (aF_le _ _ _) e
  · rw [ifc_neg q]
theorem fN_ok {nT : Nat} {a : AS} {x kk : Int32} {k : Int64} (hz : ¬ fKindAt nT a x kk k ≤ 0) : (okT nT x ∧ okT 7 kk) ∧ vD a (tN x * 8 + tN kk) k ≠ 0 := by
  unfold fKindAt at hz
  by_cases q : okT nT x ∧ okT 7 kk
  · refine ⟨q, fun e => ?_⟩
    rw [ifc_pos q, e] at hz
    exact hz (by decide)
  · rw [ifc_neg q] at hz
    exact absurd (by decide) hz
theorem vD_F {nT : Nat} {a : AS} (h : AI nT a) {o : Nat} {k : Int64} (hn : vD a o k ≠ 0) : aF a o k ≠ 0 := fun e => hn (vD_0 h e)
def cvq (a : AS) (t q : Nat) : Nat := cnt (fun i => aO a i / 8 == t && aD a i != 0) q
theorem cvq_step {a : AS} {t q fld : Nat} (hf : ch_N (aO a) t (aN a) q fld) (hn : fld ≠ 0) : cvq a t fld = cvq a t q + (if aD a fld = 0 then 0 else 1) := by
  rcases hf with ⟨z, _⟩ | ⟨z1, z2, z3, z4⟩
  · exact absurd z hn
  · obtain ⟨p, rfl⟩ : ∃ p, fld = p + 1 := ⟨fld - 1, by omega⟩
    have e : cvq a t p = cvq a t q := cnt_skip (by omega) (fun j j1 j2 => by show (aO a j / 8 == t && aD a j != 0) = false; rw [beq_eq_false_iff_ne.mpr (z4 j j1 (by omega))]; rfl)
    show cvq a t p + (if (aO a (p + 1) / 8 == t && aD a (p + 1) != 0) = true then 1 else 0) = _
    rw [e, z3, beq_self_eq_true]
    by_cases d : aD a (p + 1) = 0
    · rw [if_pos d, if_neg (by rw [d]; decide)]
    · rw [if_neg d, if_pos (by rw [bne_iff_ne.mpr d]; rfl)]
theorem cvq_end {a : AS} {t q fld : Nat} (hf : ch_N (aO a) t (aN a) q fld) (hz : fld = 0) (hq : q ≤ aN a) : cvq a t q = cV a t := by
  rcases hf with ⟨_, z⟩ | ⟨z, _⟩
  · exact (cnt_skip hq (fun j j1 j2 => by show (aO a j / 8 == t && aD a j != 0) = false; rw [beq_eq_false_iff_ne.mpr (z j j1 j2)]; rfl)).symm
  · omega
theorem cvq_le (a : AS) (t q : Nat) : cvq a t q ≤ q := cnt_le _ _
