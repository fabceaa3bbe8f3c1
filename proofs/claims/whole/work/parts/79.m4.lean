theorem cpz_same {f : Nat → Nat} {n : Nat} (h : ∀ t, n ≤ t → f t = 0) : cpz f (fun _ => 0) n = f := by
  funext t
  unfold cpz
  split
  · rfl
  · exact (h t (by omega)).symm
section M4
variable {nT gm gt : Nat} {a : AS} {kk : Nat → Nat} {ky : Nat → Int64} {kd : Nat → Nat} {nu : Nat → Int64} {tb nx ot ch fi la sz : Nat → Nat}
theorem MI.em (h : MI nT a gm gt kk ky kd nu tb nx ot ch fi la sz) {ch2 fi2 la2 sz2 : Nat → Nat} (hc : ∀ c, c < 8191 → ch2 c = 0) (hf : ∀ t, fi2 t = 0 ∧ la2 t = 0 ∧ sz2 t = 0) : MI 0 (emA a) gm gt kk ky kd nu tb nx ot ch2 fi2 la2 sz2 := by
  obtain ⟨⟨q1, q2, q3, q4, q5, q6, q7, q8, q9, q10⟩, ⟨r1, r2, r3⟩, r4, r5⟩ := h
  have hg := md_gen gm q3
  refine ⟨⟨q1.em 0, Nat.zero_le _, q3, by show 0 < md_L gm; omega, fun i i1 (i2 : i ≤ 0) => by omega, q6, q7, q8, fun c hcc => Or.inl ⟨hc c hcc, fun m m1 (m2 : m ≤ 0) => by omega⟩, fun i i1 (i2 : i ≤ 0) => by omega⟩, ⟨fun i i1 (i2 : i ≤ 0) => by omega, fun t t1 t2 => by omega, fun t _ => hf t⟩, r4, by omega⟩
theorem MI.make (h : MI nT a gm gt kk ky kd nu tb nx ot ch fi la sz) (hn : nT < 30000) : MI (nT + 1) a gm (mR gt (nT + 1)) kk ky kd nu tb nx ot ch fi la sz := by
  obtain ⟨⟨q1, q2, q3, q4, q5, q6, q7, q8, q9, q10⟩, ⟨r1, r2, r3⟩, r4, r5⟩ := h
  have hg : mR gt (nT + 1) ≤ 10 ∧ nT + 1 < md_R (mR gt (nT + 1)) := by
    unfold mR
    by_cases z : nT + 1 < md_R gt
    · rw [if_pos z]; exact ⟨r4, z⟩
    · rw [if_neg z]
      have g10 : gt < 10 := by
        rcases Nat.lt_or_ge gt 10 with y | y
        · exact y
        · have e : gt = 10 := by omega
          rw [e, show md_R 10 = 32768 from rfl] at z; omega
      have e2 : md_R (gt + 1) = 2 * md_R gt := rfl
      have := md_gen gt r4
      exact ⟨by omega, by omega⟩
  refine ⟨⟨⟨q1.1, fun i i1 i2 => ?_, q1.2.2⟩, by omega, q3, q4, q5, q6, q7, q8, q9, q10⟩, ⟨r1, fun t t1 t2 => ?_, fun t t1 => r3 t (by omega)⟩, hg.1, hg.2⟩
  · have := q1.2.1 i i1 i2; omega
  · by_cases e : t = nT + 1
    · subst e
      have hno : ∀ i, 1 ≤ i → i ≤ aN a → aO a i / 8 ≠ nT + 1 := fun i h1 h2 => by have := (q1.2.1 i h1 h2).2.1; omega
      obtain ⟨z1, z2, z3⟩ := r3 (nT + 1) (by omega)
      rw [z1, z2, z3]
      exact ⟨Or.inl ⟨rfl, fun k k1 k2 => hno k (by omega) k2⟩, Or.inl ⟨rfl, fun k k1 k2 => hno k k1 k2⟩, (cnt_none (fun j a1 a2 => beq_eq_false_iff_ne.mpr (hno j a1 a2))).symm⟩
    · exact r2 t t1 (by omega)
theorem MI.sw {i j : Nat} (h : MI nT a gm gt kk ky kd nu tb nx ot ch fi la sz) (hi : 1 ≤ i) (hi2 : i ≤ aN a) (hj : 1 ≤ j) (hj2 : j ≤ aN a) (di : aD a i ≠ 0) (dj : aD a j ≠ 0) : MI nT (swA a i j) gm gt kk ky (va_up (va_up kd i (kd j)) j (kd i)) (vp_updL (vp_updL nu i (if kd j = 0 then 0 else nu j)) j (if kd i = 0 then 0 else nu i)) tb nx ot ch fi la sz := by
  have hAg := h.1.2.2.2.2.1
  have h7 := h.1.1.2.2.1
  obtain ⟨_, _, _, a4, a5⟩ := hAg i hi hi2
  obtain ⟨_, _, _, b4, b5⟩ := hAg j hj hj2
  rw [a4, b4, if_neg di, if_neg dj, a5, b5]
  exact (h.set hi (h7 j) (fun e => absurd e dj)).set hj (h7 i) (fun e => absurd e di)
end M4
theorem upB_ok {nT t i n : Nat} {a : AS} (h : AI nT a) (hn : nT ≤ 30000) (h1 : 1 ≤ t) (h2 : t ≤ nT) (hi : 1 ≤ i) (hz : ∀ m, 1 ≤ m → m ≤ n → wK a t m ≠ 0) (hr : i ≤ n → aN a + comeA a (t * 8 + 3) (lN (n + 1)) (vD a (t * 8 + 3) (lN n)) ≤ 40000) : ∀ j, j ≤ n + 1 - i → AI nT (upA a t n j) ∧ (∀ m, i ≤ m → m ≤ n → wK (upA a t n j) t m ≠ 0) ∧ aN a ≤ aN (upA a t n j) ∧ (1 ≤ j → aN (upA a t n j) = aN (mv a t n (n + 1)))
  | 0, _ => ⟨h, fun m m1 m2 => hz m (by omega) m2, Nat.le_refl _, fun h0 => by omega⟩
  | j + 1, hj => by
    obtain ⟨q1, q2, q3, q4⟩ := upB_ok h hn h1 h2 hi hz hr j (by omega)
    have e : upA a t n (j + 1) = mv (upA a t n j) t (n - j) (n - j + 1) := rfl
    have hp := q2 (n - j) (by omega) (by omega)
    by_cases z : j = 0
    · subst z
      refine ⟨AI.give h hn h1 h2 (by omega) (by omega) (vD_le h _ _) (hr (by omega)), fun m m1 m2 => mv_nz q1 hp (q2 m m1 m2), ?_, fun _ => rfl⟩
      show aN a ≤ aN (mv a t n (n + 1))
      unfold mv; rw [giveA_N]; omega
    · have hq := q2 (n - j + 1) (by omega) (by omega)
      rw [e]
      refine ⟨q1.mv hn h1 h2 hq, fun m m1 m2 => mv_nz q1 hp (q2 m m1 m2), ?_, fun _ => ?_⟩
      · rw [mv_N (wK_F q1 hq)]; exact q3
      · rw [mv_N (wK_F q1 hq)]; exact q4 (by omega)
theorem upB_room {nT t i n : Nat} {a : AS} (h : AI nT a) (hn : nT ≤ 30000) (h1 : 1 ≤ t) (h2 : t ≤ nT) (hi : 1 ≤ i) (hz : ∀ m, 1 ≤ m → m ≤ n → wK a t m ≠ 0) (hr : i ≤ n → aN a + comeA a (t * 8 + 3) (lN (n + 1)) (vD a (t * 8 + 3) (lN n)) ≤ 40000) {j : Nat} (hj : i + j ≤ n) : aN (upA a t n j) + comeA (upA a t n j) (t * 8 + 3) (lN (n - j + 1)) (vD (upA a t n j) (t * 8 + 3) (lN (n - j))) ≤ 40000 := by
  obtain ⟨q1, q2, q3, q4⟩ := upB_ok h hn h1 h2 hi hz hr j (by omega)
  by_cases z : j = 0
  · subst z; exact hr (by omega)
  · rw [comeA_0 (wK_F q1 (q2 (n - j + 1) (by omega) (by omega)))]; exact q1.1
theorem dwB_ok {nT t i n : Nat} {a : AS} (h : AI nT a) (hn : nT ≤ 30000) (h1 : 1 ≤ t) (h2 : t ≤ nT) (hi : 1 ≤ i) (hz : ∀ m, 1 ≤ m → m ≤ n → wK a t m ≠ 0) : ∀ j, j ≤ n - i → AI nT (dwA a t i j) ∧ (∀ m, 1 ≤ m → m ≤ n → wK (dwA a t i j) t m ≠ 0) ∧ aN (dwA a t i j) = aN a
  | 0, _ => ⟨h, hz, rfl⟩
  | j + 1, hj => by
    obtain ⟨q1, q2, q3⟩ := dwB_ok h hn h1 h2 hi hz j (by omega)
    have e : dwA a t i (j + 1) = mv (dwA a t i j) t (i + j + 1) (i + j) := rfl
    have hp := q2 (i + j + 1) (by omega) (by omega)
    have hq := q2 (i + j) (by omega) (by omega)
    rw [e]
    exact ⟨q1.mv hn h1 h2 hq, fun m m1 m2 => mv_nz q1 hp (q2 m m1 m2), by rw [mv_N (wK_F q1 hq)]; exact q3⟩
theorem bd_is {nT t : Nat} {a : AS} (h : AI nT a) : isB a t (bd a t) := by
  have ex : ∀ f b, f + b = 40001 → (∀ m, 1 ≤ m → m ≤ b → wK a t m ≠ 0) → ∃ c, isB a t c := by
    intro f
    induction f with
    | zero => intro b hb hz; have := wB_le h hz; have := h.1; omega
    | succ f ih =>
      intro b hb hz
      by_cases q : wK a t (b + 1) = 0
      · exact ⟨b, hz, q⟩
      · exact ih (b + 1) (by omega) (fun m m1 m2 => by
          by_cases e : m = b + 1
          · rw [e]; exact q
          · exact hz m m1 (by omega))
  obtain ⟨c, hc⟩ := ex 40001 0 rfl (fun m m1 m2 => by omega)
  rw [bd_eq hc]; exact hc
theorem wereA_le (a : AS) (t : Nat) (frm : Int64) (st : Nat) : ∀ n, wereA a t frm st n ≤ n
  | 0 => Nat.le_refl 0
  | n + 1 => by
    have := wereA_le a t frm st n
    unfold wereA
    split <;> omega
