/-! how often the rows of tables have grown -/
def gR (g n : Nat) : Nat := if n < hz_R g then g else g + 1
theorem gR_same {g n : Nat} (_ : g ≤ 11) (h : n < hz_R g) : gR g n = g := if_pos h
theorem gR_step {g n : Nat} (_ : g ≤ 11) (_ : n < 30000) (_ : n < hz_R g) : (n + 1 < hz_R g ∧ gR g (n + 1) = g) ∨ (hz_R g ≤ n + 1 ∧ gR g (n + 1) = g + 1) := by
  unfold gR
  by_cases q : n + 1 < hz_R g
  · exact Or.inl ⟨q, if_pos q⟩
  · exact Or.inr ⟨by omega, if_neg q⟩
theorem Rs_mono {a b : Nat} (h : a ≤ b) : Rs a ≤ Rs b := by
  induction b with
  | zero => rw [Nat.le_zero.mp h]; exact Nat.le_refl _
  | succ b ih =>
    by_cases e : a = b + 1
    · rw [e]; exact Nat.le_refl _
    · have := ih (by omega)
      show Rs a ≤ Rs b + _
      omega
/-- a table comes, with no keys -/
theorem CI.make {nT g gt : Nat} {a : AS} {ow : Nat → Nat} {ky : Nat → Int64} {kd : Nat → Nat} {nu : Nat → Int64} {fo sn fi la kc vc bo fi2 la2 kc2 vc2 bo2 : Nat → Nat} (h : CI nT a g gt ow ky kd nu fo sn fi la kc vc bo) (hn : nT < 30000)
    (h2 : (∀ i, i ≤ nT → fi2 i = fi i ∧ la2 i = la i ∧ kc2 i = kc i ∧ vc2 i = vc i ∧ bo2 i = bo i) ∧ fi2 (nT + 1) = 0 ∧ la2 (nT + 1) = 0 ∧ kc2 (nT + 1) = 0 ∧ vc2 (nT + 1) = 0 ∧ bo2 (nT + 1) = 0) : CI (nT + 1) a g (gR gt (nT + 1)) ow ky kd nu fo sn fi2 la2 kc2 vc2 bo2 := by
  obtain ⟨⟨q1, q2, q3, q4, q5, q6, q7⟩, ⟨r1, r2⟩, r3, r4⟩ := h
  obtain ⟨s1, s2, s3, s4, s5, s6⟩ := h2
  have hno : ∀ i, 1 ≤ i → i ≤ aN a → aO a i / 8 ≠ nT + 1 := fun i h1 h2 => by have := (q1.2.1 i h1 h2).2.1; omega
  have hgt : gR gt (nT + 1) ≤ 11 ∧ nT + 1 < hz_R (gR gt (nT + 1)) := by
    rcases gR_step r3 hn r4 with ⟨z1, z2⟩ | ⟨z1, z2⟩
    · rw [z2]; exact ⟨r3, z1⟩
    · have g11 : gt < 11 := by
        rcases Nat.lt_or_ge gt 11 with y | y
        · exact y
        · have e : gt = 11 := by omega
          rw [e, show hz_R 11 = 30001 from rfl] at z1; omega
      have := (hz_Rgrow gt g11).2
      rw [z2]; exact ⟨by omega, by omega⟩
  refine ⟨⟨⟨q1.1, fun i h1 h2 => ?_, q1.2.2⟩, by omega, q3, q4, q5, q6, q7⟩, ⟨r1, fun t h1 h2 => ?_⟩, hgt.1, hgt.2⟩
  · have := q1.2.1 i h1 h2; omega
  · by_cases e : t = nT + 1
    · subst e
      rw [s2, s3, s4, s5, s6]
      refine ⟨Or.inl ⟨rfl, fun k a1 a2 => hno k (by omega) a2⟩, Or.inl ⟨rfl, fun k a1 a2 => hno k a1 a2⟩, ?_, ?_, fun k h1 h2 => by omega, ?_⟩
      · exact (cnt_none (fun j a1 a2 => beq_eq_false_iff_ne.mpr (hno j a1 a2))).symm
      · exact (cnt_none (fun j a1 a2 => by rw [beq_eq_false_iff_ne.mpr (hno j a1 a2)]; rfl)).symm
      · show aD a (aF a ((nT + 1) * 8 + 3) (lN 1)) = 0
        by_cases z : aF a ((nT + 1) * 8 + 3) (lN 1) = 0
        · rw [z]; exact q1.2.2.2.1
        · have := (aF_hit z).1
          have b := hno _ (Nat.pos_of_ne_zero z) (aF_le _ _ _)
          rw [this] at b; omega
    · obtain ⟨p1, p2, p3, p4, p5⟩ := s1 t (by omega)
      rw [p1, p2, p3, p4, p5]
      exact r2 t h1 (by omega)
