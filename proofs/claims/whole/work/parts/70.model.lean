/-! the reference's state -/
def md_L : Nat → Nat
  | 0 => 64
  | h + 1 => 2 * md_L h
def md_R : Nat → Nat
  | 0 => 32
  | h + 1 => 2 * md_R h
theorem md_gen : ∀ h, h ≤ 10 → 64 ≤ md_L h ∧ md_L h ≤ 65536 ∧ 32 ≤ md_R h ∧ md_R h ≤ 32768 := by decide +kernel
theorem md_mono : ∀ b, b ≤ 10 → ∀ a, a ≤ b → md_L a ≤ md_L b := by decide +kernel
def mFa : Nat → Nat → Nat → Nat
  | 0, g, _ => g
  | k + 1, g, n => if n < md_L g then g else mFa k (g + 1) n
def mF (g n : Nat) : Nat := mFa 11 g n
theorem mF_spec {g n : Nat} (hg : g ≤ 10) (hn : n ≤ 40000) : g ≤ mF g n ∧ mF g n ≤ 10 ∧ n < md_L (mF g n) ∧ (mF g n = g ∨ md_L (mF g n - 1) ≤ n) := by
  have key : ∀ k g, g ≤ 10 → 10 < k + g → g ≤ mFa k g n ∧ mFa k g n ≤ 10 ∧ n < md_L (mFa k g n) ∧ (mFa k g n = g ∨ md_L (mFa k g n - 1) ≤ n) := by
    intro k
    induction k with
    | zero => intro g h1 h2; omega
    | succ k ih =>
      intro g h1 h2
      unfold mFa
      by_cases q : n < md_L g
      · rw [if_pos q]; exact ⟨Nat.le_refl g, h1, q, Or.inl rfl⟩
      · rw [if_neg q]
        have g5 : g ≠ 10 := fun e => by
          rw [e, show md_L 10 = 65536 from rfl] at q; omega
        obtain ⟨a, b, c, d⟩ := ih (g + 1) (by omega) (by omega)
        refine ⟨by omega, b, c, Or.inr ?_⟩
        rcases d with d | d
        · rw [d, Nat.add_sub_cancel]; omega
        · exact d
  exact key 11 g hg (by omega)
theorem mF_uniq {g n g' : Nat} (hg : g ≤ g') (h5 : g' ≤ 10) (hn : n ≤ 40000) (h1 : n < md_L g') (h2 : g' = g ∨ md_L (g' - 1) ≤ n) : mF g n = g' := by
  obtain ⟨a, b, c, d⟩ := mF_spec (g := g) (n := n) (by omega) hn
  rcases Nat.lt_trichotomy (mF g n) g' with q | q | q
  · rcases h2 with z | z
    · omega
    · have := md_mono (g' - 1) (by omega) (mF g n) (by omega); omega
  · exact q
  · rcases d with z | z
    · omega
    · have := md_mono (mF g n - 1) (by omega) g' (by omega); omega
theorem mF_same {g n : Nat} (hg : g ≤ 10) (hn : n ≤ 40000) (h : n < md_L g) : mF g n = g := mF_uniq (Nat.le_refl g) hg hn h (Or.inl rfl)
theorem mF_trans {g n m : Nat} (hg : g ≤ 10) (hm : m ≤ 40000) (h : n ≤ m) : mF (mF g n) m = mF g m := by
  obtain ⟨a, b, c, d⟩ := mF_spec (g := g) (n := n) hg (by omega)
  obtain ⟨a2, b2, c2, d2⟩ := mF_spec (g := mF g n) (n := m) b hm
  refine (mF_uniq (by omega) b2 hm c2 ?_).symm
  rcases d2 with z | z
  · rw [z]; rcases d with y | y
    · exact Or.inl y
    · exact Or.inr (by omega)
  · exact Or.inr z
theorem mF_mono {g n m : Nat} (hg : g ≤ 10) (hm : m ≤ 40000) (h : n ≤ m) : mF g n ≤ mF g m := by
  rw [← mF_trans hg hm h]
  exact (mF_spec (mF_spec hg (by omega)).2.1 hm).1
theorem mF_step {g n : Nat} (hg : g ≤ 10) (hn : n < 40000) (h : n < md_L g) : (n + 1 < md_L g ∧ mF g (n + 1) = g) ∨ (n + 1 = md_L g ∧ mF g (n + 1) = g + 1 ∧ g < 10) := by
  by_cases q : n + 1 < md_L g
  · exact Or.inl ⟨q, mF_same hg (by omega) q⟩
  · have g5 : g < 10 := by
      rcases Nat.lt_or_ge g 10 with z | z
      · exact z
      · have e : g = 10 := by omega
        rw [e, show md_L 10 = 65536 from rfl] at q; omega
    have e2 : md_L (g + 1) = 2 * md_L g := rfl
    refine Or.inr ⟨by omega, mF_uniq (by omega) (by omega) (by omega) (by omega) (Or.inr ?_), g5⟩
    rw [Nat.add_sub_cancel]; omega
def Ms : Nat → Nat
  | 0 => 0
  | g + 1 => Ms g + 7 * md_L (g + 1)
theorem Ms_mono {a b : Nat} (h : a ≤ b) : Ms a ≤ Ms b := by
  induction b with
  | zero => rw [Nat.le_zero.mp h]; exact Nat.le_refl _
  | succ b ih =>
    by_cases e : a = b + 1
    · rw [e]; exact Nat.le_refl _
    · have := ih (by omega)
      show Ms a ≤ Ms b + _
      omega
def Mt : Nat → Nat
  | 0 => 0
  | g + 1 => Mt g + 3 * md_R (g + 1)
def mR (g n : Nat) : Nat := if n < md_R g then g else g + 1
theorem mR_same {g n : Nat} (h : n < md_R g) : mR g n = g := if_pos h
def md_v (t k : Nat) (key : Int64) : Int64 := (key ^^^ (key >>> ((nI 17).toInt64 &&& 63))) * lN 8 + lN k + lN (97 * t)
def md_h (t k : Nat) (key : Int64) : Nat := (md_v t k key).toBitVec.toNat % 2 ^ 63 % 8191
theorem md_h_lt (t k : Nat) (key : Int64) : md_h t k key < 8191 := Nat.mod_lt _ (by omega)
theorem md_mask (x : Int64) : x &&& lN 9223372036854775807 = lN (x.toBitVec.toNat % 2 ^ 63) := by
  apply Int64.toBitVec_inj.mp
  rw [Int64.toBitVec_and]
  apply BitVec.eq_of_toNat_eq
  rw [BitVec.toNat_and]
  show x.toBitVec.toNat &&& 9223372036854775807 % 2 ^ 64 = (x.toBitVec.toNat % 2 ^ 63) % 2 ^ 64
  rw [Nat.mod_eq_of_lt (show 9223372036854775807 < 2 ^ 64 by omega), Nat.mod_eq_of_lt (show x.toBitVec.toNat % 2 ^ 63 < 2 ^ 64 by omega)]
  exact Nat.and_two_pow_sub_one_eq_mod x.toBitVec.toNat 63
def aH (a : AS) (i : Nat) : Nat := md_h (aO a i / 8) (aO a i % 8) (aK a i)
/-- f is the last place up to n whose key is in chain c, or 0 -/
def isP (hs : Nat → Nat) (c n f : Nat) : Prop := (f = 0 ∧ ∀ m, 1 ≤ m → m ≤ n → hs m ≠ c) ∨ (1 ≤ f ∧ f ≤ n ∧ hs f = c ∧ ∀ m, f < m → m ≤ n → hs m ≠ c)
theorem isP.le {hs : Nat → Nat} {c n f : Nat} (h : isP hs c n f) : f ≤ n := by rcases h with ⟨z, _⟩ | ⟨_, z, _⟩ <;> omega
theorem isP.congr {hs hs' : Nat → Nat} {c n f : Nat} (h : isP hs c n f) (he : ∀ m, 1 ≤ m → m ≤ n → hs' m = hs m) : isP hs' c n f := by
  rcases h with ⟨z, w⟩ | ⟨z1, z2, z3, w⟩
  · exact Or.inl ⟨z, fun m m1 m2 => by rw [he m m1 m2]; exact w m m1 m2⟩
  · exact Or.inr ⟨z1, z2, by rw [he f z1 z2]; exact z3, fun m m1 m2 => by rw [he m (by omega) m2]; exact w m m1 m2⟩
theorem isP.more {hs : Nat → Nat} {c n f : Nat} (h : isP hs c n f) (hn : hs (n + 1) ≠ c) : isP hs c (n + 1) f := by
  rcases h with ⟨z, w⟩ | ⟨z1, z2, z3, w⟩
  · refine Or.inl ⟨z, fun m m1 m2 => ?_⟩
    by_cases e : m = n + 1
    · rw [e]; exact hn
    · exact w m m1 (by omega)
  · refine Or.inr ⟨z1, by omega, z3, fun m m1 m2 => ?_⟩
    by_cases e : m = n + 1
    · rw [e]; exact hn
    · exact w m m1 (by omega)
theorem isP.here {hs : Nat → Nat} {n : Nat} : isP hs (hs (n + 1)) (n + 1) (n + 1) := Or.inr ⟨by omega, Nat.le_refl _, rfl, fun m m1 m2 => by omega⟩
def MS (nT : Nat) (a : AS) (h : Nat) (kk : Nat → Nat) (ky : Nat → Int64) (kd : Nat → Nat) (nu : Nat → Int64) (tb ot ch : Nat → Nat) : Prop :=
  AI nT a ∧ nT ≤ 30000 ∧ h ≤ 10 ∧ aN a < md_L h ∧ (∀ i, 1 ≤ i → i ≤ aN a → kk i = aO a i % 8 ∧ tb i = aO a i / 8 ∧ ky i = aK a i ∧ kd i = aD a i ∧ nu i = aU a i) ∧ (∀ i, kk i < 128) ∧ (∀ i, kd i ≤ 7) ∧ (∀ i, kd i = 0 → nu i = 0) ∧ (∀ c, c < 8191 → isP (aH a) c (aN a) (ch c)) ∧ ∀ i, 1 ≤ i → i ≤ aN a → isP (aH a) (aH a i) (i - 1) (ot i)
def MT (nT : Nat) (a : AS) (nx fi la sz : Nat → Nat) : Prop :=
  ci_F (aN a) (aO a) nx ∧ (∀ t, 1 ≤ t → t ≤ nT → ch_N (aO a) t (aN a) 0 (fi t) ∧ ch_L (aO a) t (aN a) (la t) ∧ sz t = cK a t) ∧ ∀ t, nT < t → fi t = 0 ∧ la t = 0 ∧ sz t = 0
def MI (nT : Nat) (a : AS) (h ht : Nat) (kk : Nat → Nat) (ky : Nat → Int64) (kd : Nat → Nat) (nu : Nat → Int64) (tb nx ot ch fi la sz : Nat → Nat) : Prop := MS nT a h kk ky kd nu tb ot ch ∧ MT nT a nx fi la sz ∧ ht ≤ 10 ∧ nT < md_R ht
theorem MS.D {nT h : Nat} {a : AS} {kk : Nat → Nat} {ky : Nat → Int64} {kd : Nat → Nat} {nu : Nat → Int64} {tb ot ch : Nat → Nat} (hM : MS nT a h kk ky kd nu tb ot ch) {o : Nat} {k : Int64} (hf : aF a o k ≠ 0) : kd (aF a o k) = vD a o k := (hM.2.2.2.2.1 _ (Nat.pos_of_ne_zero hf) (aF_le a o k)).2.2.2.1
theorem MS.V {nT h : Nat} {a : AS} {kk : Nat → Nat} {ky : Nat → Int64} {kd : Nat → Nat} {nu : Nat → Int64} {tb ot ch : Nat → Nat} (hM : MS nT a h kk ky kd nu tb ot ch) {o : Nat} {k : Int64} (hf : aF a o k ≠ 0) : nu (aF a o k) = vU a o k := (hM.2.2.2.2.1 _ (Nat.pos_of_ne_zero hf) (aF_le a o k)).2.2.2.2
theorem vD_0 {nT : Nat} {a : AS} (h : AI nT a) {o : Nat} {k : Int64} (hf : aF a o k = 0) : vD a o k = 0 := by unfold vD; rw [hf]; exact h.2.2.2.1
theorem vU_0 {nT : Nat} {a : AS} (h : AI nT a) {o : Nat} {k : Int64} (hf : aF a o k = 0) : vU a o k = 0 := by unfold vU; rw [hf]; exact h.2.2.2.2.1
/-- the field is set -/
theorem MI.set {nT h ht i kind : Nat} {a : AS} {kk : Nat → Nat} {ky : Nat → Int64} {kd : Nat → Nat} {nu : Nat → Int64} {tb nx ot ch fi la sz : Nat → Nat} {v : Int64} (hM : MI nT a h ht kk ky kd nu tb nx ot ch fi la sz) (hi : 1 ≤ i) (hk : kind ≤ 7) (hz : kind = 0 → v = 0) : MI nT (setA a i kind v) h ht kk ky (va_up kd i kind) (vp_updL nu i v) tb nx ot ch fi la sz := by
  obtain ⟨⟨q1, q2, q3, q4, q5, q6, q7, q8, q9, q10⟩, r1, r2⟩ := hM
  refine ⟨⟨q1.set hi hk hz, q2, q3, q4, fun j j1 j2 => ?_, q6, fun j => ?_, fun j e => ?_, q9, q10⟩, r1, r2⟩
  · obtain ⟨w1, w2, w3, w4, w5⟩ := q5 j j1 j2
    refine ⟨w1, w2, w3, ?_, ?_⟩
    · show va_up kd i kind j = va_up (aD a) i kind j
      unfold va_up; split
      · rfl
      · exact w4
    · show vp_updL nu i v j = va_up (aU a) i v j
      unfold vp_updL va_up; split
      · rfl
      · exact w5
  · unfold va_up; split
    · exact hk
    · exact q7 j
  · unfold va_up at e
    unfold vp_updL
    split at e
    · rename_i z; rw [if_pos z]; exact hz e
    · rename_i z; rw [if_neg z]; exact q8 j e
theorem aH_add {a : AS} {o : Nat} {k : Int64} {kd : Nat} {nu : Int64} {i : Nat} (hi : i ≤ aN a) : aH (addA a o k kd nu) i = aH a i := by
  show md_h (va_up (aO a) (aN a + 1) o i / 8) (va_up (aO a) (aN a + 1) o i % 8) (va_up (aK a) (aN a + 1) k i) = _
  rw [va_up_ne _ _ (by omega), va_up_ne _ _ (by omega)]
  rfl
theorem aH_new {a : AS} {o : Nat} {k : Int64} {kd : Nat} {nu : Int64} : aH (addA a o k kd nu) (aN a + 1) = md_h (o / 8) (o % 8) k := by
  show md_h (va_up (aO a) (aN a + 1) o (aN a + 1) / 8) (va_up (aO a) (aN a + 1) o (aN a + 1) % 8) (va_up (aK a) (aN a + 1) k (aN a + 1)) = _
  rw [va_up_self, va_up_self]
/-- a key comes -/
theorem MI.add {nT h h2 ht t k : Nat} {a : AS} {key : Int64} {kk kk2 : Nat → Nat} {ky ky2 : Nat → Int64} {kd kd2 : Nat → Nat} {nu nu2 : Nat → Int64} {tb tb2 nx nx1 nx2 ot ot2 ch fi fi2 la sz : Nat → Nat} (hM : MI nT a h ht kk ky kd nu tb nx ot ch fi la sz) (ht1 : 1 ≤ t) (ht2 : t ≤ nT) (hk1 : 1 ≤ k) (hk2 : k < 8) (hr : aN a < 40000) (hf : aF a (t * 8 + k) key = 0) (hh : h2 ≤ 10) (hL : aN a + 1 < md_L h2)
    (hA : ∀ i, i ≤ aN a → kk2 i = kk i ∧ ky2 i = ky i ∧ tb2 i = tb i ∧ ot2 i = ot i) (hV : ∀ i, i ≤ aN a → kd2 i = kd i ∧ nu2 i = nu i) (b1 : ∀ i, kk2 i < 128) (b2 : ∀ i, kd2 i ≤ 7) (b3 : ∀ i, kd2 i = 0 → nu2 i = 0) (n1 : kk2 (aN a + 1) = k) (n2 : ky2 (aN a + 1) = key) (n3 : tb2 (aN a + 1) = t) (n4 : ot2 (aN a + 1) = ch (md_h t k key))
    (x1 : ∀ i, i ≤ aN a → nx1 i = nx i) (x2 : nx1 (aN a + 1) = 0) (hnx : nx2 = if sz t = 0 then nx1 else va_up nx1 (la t) (aN a + 1)) (hfi : fi2 = if sz t = 0 then va_up fi t (aN a + 1) else fi) :
    MI nT (addA a (t * 8 + k) key (kd2 (aN a + 1)) (nu2 (aN a + 1))) h2 ht kk2 ky2 kd2 nu2 tb2 nx2 ot2 (va_up ch (md_h t k key) (aN a + 1)) fi2 (va_up la t (aN a + 1)) (va_up sz t (sz t + 1)) := by
  obtain ⟨⟨q1, q2, q3, q4, q5, q6, q7, q8, q9, q10⟩, ⟨r1, r2, r3⟩, r4, r5⟩ := hM
  have ho : (t * 8 + k) / 8 = t := by omega
  have ho2 : (t * 8 + k) % 8 = k := by omega
  generalize hv : kd2 (aN a + 1) = v
  generalize hw : nu2 (aN a + 1) = w
  have how : ∀ i, i ≤ aN a → aO (addA a (t * 8 + k) key v w) i = aO a i := fun i hi => va_up_ne _ _ (by omega)
  have hon : aO (addA a (t * 8 + k) key v w) (aN a + 1) = t * 8 + k := va_up_self _ _ _
  have hnew : aH (addA a (t * 8 + k) key v w) (aN a + 1) = md_h t k key := by rw [aH_new, ho, ho2]
  obtain ⟨t1, t2, t3⟩ := r2 t ht1 ht2
  have hl : la t ≤ aN a := by rcases t2 with ⟨q, _⟩ | ⟨_, q, _⟩ <;> omega
  have hz0 : sz t = 0 ↔ la t = 0 := by
    rw [t3]
    constructor
    · intro e
      rcases t2 with ⟨z, _⟩ | ⟨z1, z2, z3, _⟩
      · exact z
      · have := cnt_lt (p := fun i => aO a i / 8 == t) z1 z2 (by show (aO a (la t) / 8 == t) = true; rw [z3]; exact beq_self_eq_true t)
        unfold cK at e; omega
    · intro e
      rcases t2 with ⟨_, z⟩ | ⟨z, _⟩
      · exact cnt_none (fun j j1 j2 => beq_eq_false_iff_ne.mpr (z j j1 j2))
      · omega
  refine ⟨⟨q1.add q2 ht1 ht2 hk1 hk2 hr hf (by rw [← hv]; exact b2 _) (fun e => by rw [← hw]; exact b3 _ (by rw [hv]; exact e)), q2, hh, hL, fun i i1 (i2 : i ≤ aN a + 1) => ?_, b1, b2, b3, fun c hc => ?_, fun i i1 (i2 : i ≤ aN a + 1) => ?_⟩, ⟨?_, fun t' h1 h2 => ?_, fun t' h1 => ?_⟩, r4, r5⟩
  · show kk2 i = va_up (aO a) (aN a + 1) (t * 8 + k) i % 8 ∧ tb2 i = va_up (aO a) (aN a + 1) (t * 8 + k) i / 8 ∧ ky2 i = va_up (aK a) (aN a + 1) key i ∧ kd2 i = va_up (aD a) (aN a + 1) v i ∧ nu2 i = va_up (aU a) (aN a + 1) w i
    by_cases e : i = aN a + 1
    · rw [e, va_up_self, va_up_self, va_up_self, va_up_self]; exact ⟨n1.trans ho2.symm, n3.trans ho.symm, n2, hv, hw⟩
    · rw [va_up_ne _ _ e, va_up_ne _ _ e, va_up_ne _ _ e, va_up_ne _ _ e]
      obtain ⟨p1, p2, p3, p4, p5⟩ := q5 i i1 (by omega)
      obtain ⟨s1, s2, s3, _⟩ := hA i (by omega)
      obtain ⟨s5, s6⟩ := hV i (by omega)
      exact ⟨s1.trans p1, s3.trans p2, s2.trans p3, s5.trans p4, s6.trans p5⟩
  · show isP (aH (addA a (t * 8 + k) key v w)) c (aN a + 1) (va_up ch (md_h t k key) (aN a + 1) c)
    by_cases e : c = md_h t k key
    · rw [e, va_up_self, ← hnew]; exact isP.here
    · rw [va_up_ne _ _ e]
      exact ((q9 c hc).congr (fun m m1 m2 => aH_add m2)).more (by rw [hnew]; exact fun z => e z.symm)
  · by_cases e : i = aN a + 1
    · rw [e, hnew, n4, Nat.add_sub_cancel]
      exact (q9 _ (md_h_lt t k key)).congr (fun m m1 m2 => aH_add m2)
    · rw [(hA i (by omega)).2.2.2, aH_add (by omega)]
      exact (q10 i i1 (by omega)).congr (fun m m1 m2 => aH_add (by omega))
  · refine ci_F.app (t := t) (last := la t) r1 t2 ho how hon (fun i hi ne => ?_) ?_ (fun nz => ?_)
    · rw [hnx]; split
      · exact x1 i hi
      · rw [va_up_ne _ _ ne]; exact x1 i hi
    · rw [hnx]; split
      · exact x2
      · rw [va_up_ne _ _ (by omega)]; exact x2
    · rw [hnx, if_neg (fun c => nz (hz0.mp c))]; exact va_up_self _ _ _
  · obtain ⟨u1, u2, u3⟩ := r2 t' h1 h2
    refine ⟨?_, ?_, ?_⟩
    · by_cases e : t' = t
      · subst e
        rw [hfi]
        split
        · rename_i z
          rw [va_up_self]
          refine ch_N.first ?_ ho how hon
          rcases u2 with ⟨_, q⟩ | ⟨q, _⟩
          · exact Or.inl ⟨rfl, fun x a1 a2 => q x (by omega) a2⟩
          · have := hz0.mp z; omega
        · rename_i z
          refine u1.app ho how hon (Or.inr (fun c => ?_))
          rcases u1 with ⟨_, q⟩ | ⟨q, _⟩
          · rcases u2 with ⟨q2, _⟩ | ⟨q2, q3, q4, _⟩
            · exact z (hz0.mpr q2)
            · exact q _ (by omega) q3 q4
          · omega
      · have : fi2 t' = fi t' := by
          rw [hfi]; split
          · exact va_up_ne _ _ e
          · rfl
        rw [this]
        exact u1.app ho how hon (Or.inl e)
    · by_cases e : t' = t
      · subst e
        rw [va_up_self]
        exact ch_L.last ho hon
      · rw [va_up_ne _ _ e]
        exact u2.app ho how hon e
    · rw [cK_add, ho]
      by_cases e : t' = t
      · subst e; rw [va_up_self, if_pos rfl, u3]
      · rw [va_up_ne _ _ e, if_neg (fun c => e c.symm), u3, Nat.add_zero]
  · have e : t' ≠ t := by omega
    have : fi2 t' = fi t' := by
      rw [hfi]; split
      · exact va_up_ne _ _ e
      · rfl
    rw [this, va_up_ne _ _ e, va_up_ne _ _ e]
    exact r3 t' h1
theorem set_add2 (a : AS) (o : Nat) (k : Int64) (v : Nat) (w : Int64) (kd : Nat) (nu : Int64) : setA (addA a o k v w) (aN a + 1) kd nu = addA a o k kd nu := by
  show (aN a + 1, va_up (aO a) (aN a + 1) o, va_up (aK a) (aN a + 1) k, va_up (va_up (aD a) (aN a + 1) v) (aN a + 1) kd, va_up (va_up (aU a) (aN a + 1) w) (aN a + 1) nu) = _
  rw [bx_uu, bx_uu]
  rfl
