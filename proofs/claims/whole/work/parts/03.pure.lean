/-- an array of ints that holds numbers -/
abbrev nf (f : Nat → Nat) : Nat → Int32 := fun j => nI (f j)
theorem fz_updN (f : Nat → Nat) (j x : Nat) : upd (nf f) j (nI x) = nf (va_up f j x) := by
  funext i
  by_cases h : i = j
  · subst h; rw [pk_us]; show nI x = nI (va_up f i x i); rw [va_up_self]
  · rw [pk_un h]; show nI (f i) = nI (va_up f j x i); rw [va_up_ne _ _ h]
theorem fz_nf0 : (fun _ => (0 : Int32)) = nf (fun _ => 0) := funext (fun _ => nI_0.symm)
theorem fz_inc (k : Nat) : nI k + Int32.ofInt 1 = nI (k + 1) := by
  rw [show Int32.ofInt 1 = 1 by decide]; exact nI_1 k
theorem fz_dec {k : Nat} (h : 0 < k) : nI k + Int32.ofInt (-1) = nI (k - 1) := by
  rw [show Int32.ofInt (-1) = -1 by decide]; exact sb_m1 h
theorem fz_i2b {k : Nat} (h : k < 128) : (nI k).toInt8.toInt32 = nI k := by
  have : ∀ k, k < 128 → (nI k).toInt8.toInt32 = nI k := by decide +kernel
  exact this k h
theorem fz_nb {k : Nat} (h : k < 128) : vp_nar .byte (nI k) = nI k := by
  rw [vp_nar_byte]; exact fz_i2b h
theorem fz_or3 {t k : Nat} (hk : k < 8) (ht : t < 2 ^ 28) : nI (t * 8) ||| nI k = nI (t * 8 + k) := by
  have h1 : t * 8 + k = t * 8 ||| k := by
    have := Nat.two_pow_add_eq_or_of_lt (i := 3) (b := k) (by omega) t
    rw [show 2 ^ 3 * t = t * 8 by omega] at this
    exact this
  apply Int32.toBitVec_inj.mp
  rw [Int32.toBitVec_or]
  show BitVec.ofNat 32 _ ||| BitVec.ofNat 32 _ = BitVec.ofNat 32 _
  apply BitVec.eq_of_toNat_eq
  rw [BitVec.toNat_or, BitVec.toNat_ofNat, BitVec.toNat_ofNat, BitVec.toNat_ofNat, Nat.mod_eq_of_lt (by omega), Nat.mod_eq_of_lt (by omega), Nat.mod_eq_of_lt (by omega), h1]
/-! the search among the keys 1 .. n -/
def fnd (ow : Nat → Nat) (ky : Nat → Int64) (o : Nat) (k : Int64) : Nat → Nat
  | 0 => 0
  | n + 1 => if ow (n + 1) = o ∧ ky (n + 1) = k then n + 1 else fnd ow ky o k n
theorem fnd_le (ow : Nat → Nat) (ky : Nat → Int64) (o : Nat) (k : Int64) : ∀ n, fnd ow ky o k n ≤ n
  | 0 => Nat.le_refl 0
  | n + 1 => by
    unfold fnd
    split
    · exact Nat.le_refl _
    · exact Nat.le_succ_of_le (fnd_le ow ky o k n)
theorem fnd_hit {ow : Nat → Nat} {ky : Nat → Int64} {o : Nat} {k : Int64} : ∀ {n : Nat}, fnd ow ky o k n ≠ 0 → ow (fnd ow ky o k n) = o ∧ ky (fnd ow ky o k n) = k
  | 0, h => absurd rfl h
  | n + 1, h => by
    unfold fnd at h ⊢
    split
    · assumption
    · rename_i h1
      rw [if_neg h1] at h
      exact fnd_hit h
theorem fnd_none {ow : Nat → Nat} {ky : Nat → Int64} {o : Nat} {k : Int64} : ∀ {n : Nat}, fnd ow ky o k n = 0 → ∀ j, 1 ≤ j → j ≤ n → ¬ (ow j = o ∧ ky j = k)
  | 0, _, j, h1, h2 => by omega
  | n + 1, h, j, h1, h2 => by
    unfold fnd at h
    split at h
    · omega
    · rename_i h3
      by_cases e : j = n + 1
      · subst e; exact h3
      · exact fnd_none h j h1 (by omega)
def hz_U (n : Nat) (ow : Nat → Nat) (ky : Nat → Int64) : Prop := ∀ i j, 1 ≤ i → i ≤ n → 1 ≤ j → j ≤ n → ow i = ow j → ky i = ky j → i = j
theorem fnd_uniq {ow : Nat → Nat} {ky : Nat → Int64} {o : Nat} {k : Int64} {n i : Nat} (hU : hz_U n ow ky) (h1 : 1 ≤ i) (h2 : i ≤ n) (h3 : ow i = o) (h4 : ky i = k) : fnd ow ky o k n = i := by
  by_cases e : fnd ow ky o k n = 0
  · exact absurd ⟨h3, h4⟩ (fnd_none e i h1 h2)
  · obtain ⟨a, b⟩ := fnd_hit e
    exact hU _ _ (by omega) (fnd_le ow ky o k n) h1 h2 (a.trans h3.symm) (b.trans h4.symm)
theorem fnd_zero {ow : Nat → Nat} {ky : Nat → Int64} {o : Nat} {k : Int64} {n : Nat} (h : ∀ j, 1 ≤ j → j ≤ n → ¬ (ow j = o ∧ ky j = k)) : fnd ow ky o k n = 0 := by
  by_cases e : fnd ow ky o k n = 0
  · exact e
  · exact absurd (fnd_hit e) (h _ (by omega) (fnd_le ow ky o k n))
theorem fnd_congr {ow ow' : Nat → Nat} {ky ky' : Nat → Int64} {o : Nat} {k : Int64} : ∀ {n : Nat}, (∀ j, 1 ≤ j → j ≤ n → ow' j = ow j ∧ ky' j = ky j) → fnd ow' ky' o k n = fnd ow ky o k n
  | 0, _ => rfl
  | n + 1, h => by
    unfold fnd
    rw [(h (n + 1) (by omega) (by omega)).1, (h (n + 1) (by omega) (by omega)).2, fnd_congr (fun j h1 h2 => h j h1 (by omega))]
theorem hz_U.less {n n' : Nat} {ow : Nat → Nat} {ky : Nat → Int64} (h : hz_U n ow ky) (hn : n' ≤ n) : hz_U n' ow ky := fun i j a b c d => h i j a (by omega) c (by omega)
theorem hz_U.add {n : Nat} {ow ow' : Nat → Nat} {ky ky' : Nat → Int64} (h : hz_U n ow ky) (hk : ∀ j, 1 ≤ j → j ≤ n → ow' j = ow j ∧ ky' j = ky j) (hf : fnd ow ky (ow' (n + 1)) (ky' (n + 1)) n = 0) : hz_U (n + 1) ow' ky' := by
  intro i j hi hi2 hj hj2 h1 h2
  by_cases e1 : i = n + 1
  · by_cases e2 : j = n + 1
    · omega
    · subst e1
      have q := hk j hj (by omega)
      exact absurd ⟨by rw [← q.1]; exact h1.symm, by rw [← q.2]; exact h2.symm⟩ (fnd_none hf j hj (by omega))
  · by_cases e2 : j = n + 1
    · subst e2
      have q := hk i hi (by omega)
      exact absurd ⟨by rw [← q.1]; exact h1, by rw [← q.2]; exact h2⟩ (fnd_none hf i hi (by omega))
    · have q := hk i hi (by omega)
      have q2 := hk j hj (by omega)
      exact h i j hi (by omega) hj (by omega) (by rw [← q.1, ← q2.1]; exact h1) (by rw [← q.2, ← q2.2]; exact h2)
/-! the row of slots -/
theorem hz_pigeon : ∀ (n M : Nat) (f : Nat → Nat), (∀ j, j < M → 1 ≤ f j ∧ f j ≤ n) → (∀ i j, i < M → j < M → f i = f j → i = j) → M ≤ n
  | 0, M, f, h, _ => by
    rcases Nat.eq_zero_or_pos M with e | e
    · omega
    · have := h 0 e; omega
  | n + 1, M, f, h, inj => by
    rcases Nat.eq_zero_or_pos M with e | e
    · omega
    · have := hz_pigeon n (M - 1) (fun j => if f j = n + 1 then f (M - 1) else f j) (fun j hj => by
        have a := h j (by omega)
        have b := h (M - 1) (by omega)
        have d := inj j (M - 1) (by omega) (by omega)
        show 1 ≤ (if f j = n + 1 then f (M - 1) else f j) ∧ (if f j = n + 1 then f (M - 1) else f j) ≤ n
        split
        · rename_i h1
          have : f (M - 1) ≠ n + 1 := fun h2 => by have := d (by omega); omega
          omega
        · omega) (fun i j hi hj hij => by
        have hij : (if f i = n + 1 then f (M - 1) else f i) = (if f j = n + 1 then f (M - 1) else f j) := hij
        have d1 := inj i (M - 1) (by omega) (by omega)
        have d2 := inj j (M - 1) (by omega) (by omega)
        have d3 := inj i j (by omega) (by omega)
        split at hij
        · split at hij
          · exact d3 (by omega)
          · have := d2 (by omega); omega
        · split at hij
          · have := d1 (by omega); omega
          · exact d3 hij)
      omega
def hz_T (M n : Nat) (h : Nat → Nat) (sn : Nat → Nat) : Prop := (∀ j, j < M → sn j ≤ n) ∧ (∀ j j', j < M → j' < M → sn j = sn j' → sn j ≠ 0 → j = j') ∧ ∀ i, 1 ≤ i → i ≤ n → ∃ d, d < M ∧ sn ((h i + d) % M) = i ∧ ∀ d', d' < d → sn ((h i + d') % M) ≠ 0
theorem hz_T.zero {M : Nat} {h : Nat → Nat} : hz_T M 0 h (fun _ => 0) := ⟨fun _ _ => Nat.le_refl 0, fun _ _ _ _ _ h => absurd rfl h, fun i h1 h2 => by omega⟩
theorem hz_mod_inj {M h d d' : Nat} (h1 : d < M) (h2 : d' < M) (e : (h + d) % M = (h + d') % M) : d = d' := by
  have a := Nat.div_add_mod (h + d) M
  have b := Nat.div_add_mod (h + d') M
  rw [e] at a
  rcases Nat.lt_trichotomy ((h + d) / M) ((h + d') / M) with q | q | q
  · have : M * ((h + d) / M) + M ≤ M * ((h + d') / M) := by rw [← Nat.mul_succ]; exact Nat.mul_le_mul_left M q
    omega
  · rw [q] at a; omega
  · have : M * ((h + d') / M) + M ≤ M * ((h + d) / M) := by rw [← Nat.mul_succ]; exact Nat.mul_le_mul_left M q
    omega
/-- a row of slots that is longer than its keys are many has a free one on every search -/
theorem hz_T.free {M n : Nat} {h sn : Nat → Nat} (hT : hz_T M n h sn) (hn : n < M) (h0 : Nat) : ¬ ∀ d, d < M → sn ((h0 + d) % M) ≠ 0 := by
  intro hall
  have := hz_pigeon n M (fun d => sn ((h0 + d) % M)) (fun j hj => ⟨Nat.pos_of_ne_zero (hall j hj), hT.1 _ (Nat.mod_lt _ (by omega))⟩) (fun i j hi hj e => hz_mod_inj hi hj (hT.2.1 _ _ (Nat.mod_lt _ (by omega)) (Nat.mod_lt _ (by omega)) e (hall i hi)))
  omega
/-- the search of a key: where it ends -/
theorem hz_T.stop {M n h0 d o : Nat} {k : Int64} {ow : Nat → Nat} {ky : Nat → Int64} {sn : Nat → Nat} {hh : Nat → Int64 → Nat} (hT : hz_T M n (fun i => hh (ow i) (ky i)) sn) (hU : hz_U n ow ky) (e0 : h0 = hh o k) (hd : d < M)
    (hb : ∀ d', d' < d → sn ((h0 + d') % M) ≠ 0 ∧ ¬ (ow (sn ((h0 + d') % M)) = o ∧ ky (sn ((h0 + d') % M)) = k)) (hs : sn ((h0 + d) % M) = 0 ∨ (ow (sn ((h0 + d) % M)) = o ∧ ky (sn ((h0 + d) % M)) = k)) : sn ((h0 + d) % M) = fnd ow ky o k n := by
  subst e0
  by_cases z : sn ((hh o k + d) % M) = 0
  · rw [z]
    refine (fnd_zero (fun i h1 h2 h3 => ?_)).symm
    obtain ⟨di, a, b, c⟩ := hT.2.2 i h1 h2
    have e : hh (ow i) (ky i) = hh o k := by rw [h3.1, h3.2]
    dsimp only at b c
    rw [e] at b
    rcases Nat.lt_trichotomy di d with q | q | q
    · have := (hb di q).2
      rw [b] at this
      exact this h3
    · rw [← q, b] at z; omega
    · have := c d q
      rw [e] at this
      exact this z
  · rcases hs with hs | hs
    · exact absurd hs z
    · exact (fnd_uniq hU (Nat.pos_of_ne_zero z) (hT.1 _ (Nat.mod_lt _ (by omega))) hs.1 hs.2).symm
theorem hz_T.add {M n h0 d : Nat} {h h' sn : Nat → Nat} (hT : hz_T M n h sn) (hk : ∀ i, 1 ≤ i → i ≤ n → h' i = h i) (e0 : h' (n + 1) = h0) (hd : d < M) (hb : ∀ d', d' < d → sn ((h0 + d') % M) ≠ 0) (hz : sn ((h0 + d) % M) = 0) : hz_T M (n + 1) h' (va_up sn ((h0 + d) % M) (n + 1)) := by
  have hne : ∀ x, sn x ≠ 0 → va_up sn ((h0 + d) % M) (n + 1) x = sn x := fun x hx => va_up_ne _ _ (fun e => hx (by rw [e]; exact hz))
  have hnz : ∀ x, sn x ≠ 0 → va_up sn ((h0 + d) % M) (n + 1) x ≠ 0 := fun x hx => by rw [hne x hx]; exact hx
  refine ⟨fun j hj => ?_, fun j j' hj hj' e nz => ?_, fun i h1 h2 => ?_⟩
  · unfold va_up
    have := hT.1 j hj
    split <;> omega
  · have a := hT.1 j hj
    have a' := hT.1 j' hj'
    unfold va_up at e nz
    split at e <;> split at e
    · omega
    · omega
    · omega
    · rename_i g1 g2
      rw [if_neg g1] at nz
      exact hT.2.1 j j' hj hj' e nz
  · by_cases q : i = n + 1
    · subst q
      exact ⟨d, hd, by rw [e0, va_up_self], fun d' hd' => by rw [e0]; exact hnz _ (hb d' hd')⟩
    · obtain ⟨di, a, b, c⟩ := hT.2.2 i h1 (by omega)
      refine ⟨di, a, ?_, fun d' hd' => ?_⟩
      · rw [hk i h1 (by omega), hne _ (by omega)]; exact b
      · rw [hk i h1 (by omega)]; exact hnz _ (c d' hd')
theorem hz_T.congr {M n : Nat} {h h' sn : Nat → Nat} (hT : hz_T M n h sn) (hk : ∀ i, 1 ≤ i → i ≤ n → h' i = h i) : hz_T M n h' sn := ⟨hT.1, hT.2.1, fun i h1 h2 => by rw [hk i h1 h2]; exact hT.2.2 i h1 h2⟩
/-! the hash of a key, as the code computes it -/
def hz_mix (o : Nat) (k : Int64) : Int64 := k * (-7046029254386353131) + lN o * (-4417276706812531889)
def hz_fold (x : Int64) : Int64 := x ^^^ (x.toUInt64 >>> ((nI 32).toInt64.toUInt64 &&& Int64.toUInt64 63)).toInt64
def hz_scat (o : Nat) (k : Int64) : Int32 := (hz_fold (hz_fold (hz_mix o k) * (-2960836687051489901))).toInt32
def hz_h (M o : Nat) (k : Int64) : Nat := (hz_scat o k).toBitVec.toNat % M
theorem hz_h_lt {M o : Nat} {k : Int64} (h : 0 < M) : hz_h M o k < M := Nat.mod_lt _ h
theorem hz_mask {M kap : Nat} (hM : M = 2 ^ kap) (h2 : M < 2 ^ 31) (x : Int32) : x &&& nI (M - 1) = nI (x.toBitVec.toNat % M) := by
  subst hM
  exact pk_and x kap (pk_tn (by omega))
theorem hz_maskN {M kap : Nat} (hM : M = 2 ^ kap) (h2 : M < 2 ^ 31) {a : Nat} (ha : a < 2 ^ 32) : nI a &&& nI (M - 1) = nI (a % M) := by
  subst hM
  exact pk_andN ha kap (pk_tn (by omega))
/-! counts -/
def cnt (p : Nat → Bool) : Nat → Nat
  | 0 => 0
  | n + 1 => cnt p n + (if p (n + 1) = true then 1 else 0)
theorem cnt_le (p : Nat → Bool) : ∀ n, cnt p n ≤ n
  | 0 => Nat.le_refl 0
  | n + 1 => by
    have := cnt_le p n
    unfold cnt
    split <;> omega
theorem cnt_mono (p : Nat → Bool) {i : Nat} : ∀ {n : Nat}, i ≤ n → cnt p i ≤ cnt p n
  | 0, h => by rw [Nat.le_zero.mp h]; exact Nat.le_refl _
  | n + 1, h => by
    by_cases e : i = n + 1
    · rw [e]; exact Nat.le_refl _
    · have := cnt_mono p (i := i) (n := n) (by omega)
      show cnt p i ≤ cnt p n + _
      omega
theorem cnt_congr {p q : Nat → Bool} : ∀ {n : Nat}, (∀ j, 1 ≤ j → j ≤ n → p j = q j) → cnt p n = cnt q n
  | 0, _ => rfl
  | n + 1, h => by
    unfold cnt
    rw [cnt_congr (fun j h1 h2 => h j h1 (by omega)), h (n + 1) (by omega) (by omega)]
theorem cnt_lt {p : Nat → Bool} {i n : Nat} (h1 : 1 ≤ i) (h2 : i ≤ n) (hp : p i = true) : cnt p (i - 1) + 1 ≤ cnt p n := by
  have a := cnt_mono p h2
  obtain ⟨k, rfl⟩ : ∃ k, i = k + 1 := ⟨i - 1, by omega⟩
  have b : cnt p (k + 1) = cnt p k + 1 := by
    show cnt p k + _ = _
    rw [if_pos hp]
  have : k + 1 - 1 = k := by omega
  rw [this]; omega
theorem cnt_one {p q : Nat → Bool} {i : Nat} : ∀ {n : Nat}, 1 ≤ i → i ≤ n → (∀ j, 1 ≤ j → j ≤ n → j ≠ i → q j = p j) → p i = false → q i = true → cnt q n = cnt p n + 1
  | 0, h1, h2, _, _, _ => by omega
  | n + 1, h1, h2, h, hp, hq => by
    by_cases e : i = n + 1
    · subst e
      unfold cnt
      rw [if_pos hq, if_neg (by rw [hp]; decide), cnt_congr (p := q) (q := p) (fun j a b => h j a (by omega) (by omega))]
    · have := cnt_one (n := n) h1 (by omega) (fun j a b c => h j a (by omega) c) hp hq
      show cnt q n + _ = cnt p n + _ + 1
      rw [this, h (n + 1) (by omega) (by omega) (by omega)]
      omega
theorem cnt_none {p : Nat → Bool} : ∀ {n : Nat}, (∀ j, 1 ≤ j → j ≤ n → p j = false) → cnt p n = 0
  | 0, _ => rfl
  | n + 1, h => by
    unfold cnt
    rw [cnt_none (fun j a b => h j a (by omega)), if_neg (by rw [h (n + 1) (by omega) (by omega)]; decide)]
theorem cnt_skip {p : Nat → Bool} {i : Nat} : ∀ {n : Nat}, i ≤ n → (∀ j, i < j → j ≤ n → p j = false) → cnt p n = cnt p i
  | 0, h, _ => by rw [Nat.le_zero.mp h]
  | n + 1, h, hf => by
    by_cases e : i = n + 1
    · rw [e]
    · show cnt p n + _ = _
      rw [if_neg (by rw [hf (n + 1) (by omega) (by omega)]; decide), cnt_skip (by omega) (fun j a b => hf j a (by omega))]
      omega
/-! copies -/
def cpz {α : Type} (f g : Nat → α) (n : Nat) : Nat → α := fun j => if j < n then f j else g j
theorem cpz_in {α : Type} {f g : Nat → α} {n j : Nat} (h : j < n) : cpz f g n j = f j := if_pos h
theorem cpz_out {α : Type} {f g : Nat → α} {n j : Nat} (h : ¬ j < n) : cpz f g n j = g j := if_neg h
theorem cpz_0 {α : Type} (f g : Nat → α) : cpz f g 0 = g := funext (fun j => if_neg (Nat.not_lt_zero j))
theorem cpz_step (x : Nat) (g : Nat → Nat) (i : Nat) : va_up (cpz (fun _ => x) g i) i x = cpz (fun _ => x) g (i + 1) := by
  funext j
  unfold va_up cpz
  by_cases h : j = i
  · rw [if_pos h, if_pos (by omega)]
  · rw [if_neg h]
    by_cases h2 : j < i
    · rw [if_pos h2, if_pos (by omega)]
    · rw [if_neg h2, if_neg (by omega)]
theorem cpz_cpy {α : Type} (f g : Nat → α) (n : Nat) : va_cpy f g 0 0 n = cpz f g n := by
  funext j
  unfold va_cpy cpz
  by_cases h : j < n
  · rw [if_pos h, if_pos (by omega)]; congr 1; omega
  · rw [if_neg h, if_neg (by omega)]
theorem cpz_nf (f g : Nat → Nat) (n : Nat) : va_cpy (nf f) (nf g) 0 0 n = nf (cpz f g n) := by
  rw [cpz_cpy]
  funext j
  unfold cpz
  by_cases h : j < n
  · rw [if_pos h]; show nI (f j) = nI (if j < n then f j else g j); rw [if_pos h]
  · rw [if_neg h]; show nI (g j) = nI (if j < n then f j else g j); rw [if_neg h]
theorem fz_minN {a b c : Nat} (ha : a < 2 ^ 31) (hb : b < 2 ^ 31) (h : (if b < a then b else a) = c) : (if nI b < nI a then nI b else nI a) = nI c := by
  subst h
  by_cases q : b < a
  · rw [if_pos q, if_pos ((nI_ltI hb ha).mpr q)]
  · rw [if_neg q, if_neg (fun z => q ((nI_ltI hb ha).mp z))]
theorem fz_fitb {k : Nat} (h : k < 128) : fits .byte (.int (nI k)) = true := by
  have : ∀ k, k < 128 → fits .byte (.int (nI k)) = true := by decide +kernel
  exact this k h
/-! the lengths of the rows of fields, by how often they have grown -/
def hz_L (g : Nat) : Nat := match g with
  | 0 => 64
  | 1 => 256
  | 2 => 1024
  | 3 => 4096
  | 4 => 16384
  | _ => 40001
def hz_M (g : Nat) : Nat := 2 ^ (7 + 2 * g)
theorem hz_gen : ∀ g, g ≤ 5 → hz_L g ≤ hz_M g ∧ hz_M g ≤ 131072 ∧ 128 ≤ hz_M g ∧ 64 ≤ hz_L g ∧ hz_L g ≤ 40001 := by decide +kernel
theorem hz_grow : ∀ g, g < 5 → (if 40001 < hz_L g * 4 then 40001 else hz_L g * 4) = hz_L (g + 1) ∧ hz_M g * 4 = hz_M (g + 1) ∧ hz_L g < hz_L (g + 1) := by decide +kernel
def Gs : Nat → Nat
  | 0 => 0
  | g + 1 => Gs g + (5 * hz_L (g + 1) + hz_M (g + 1))
theorem hz_T.none {M : Nat} {h sn : Nat → Nat} (hz : ∀ j, j < M → sn j = 0) : hz_T M 0 h sn := ⟨fun j hj => by rw [hz j hj]; exact Nat.le_refl 0, fun j _ hj _ _ n => absurd (hz j hj) n, fun i h1 h2 => by omega⟩
