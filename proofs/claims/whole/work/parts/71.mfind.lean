theorem md_hash {a : AS} {t k m : Nat} {key : Int64} (hk : k < 8) (h : aO a m = t * 8 + k ∧ aK a m = key) : aH a m = md_h t k key := by
  unfold aH
  rw [h.1, h.2, show (t * 8 + k) / 8 = t by omega, show (t * 8 + k) % 8 = k by omega]
def noM (a : AS) (t k : Nat) (key : Int64) (b : Nat) : Prop := ∀ m, b < m → m ≤ aN a → ¬ (aO a m = t * 8 + k ∧ aK a m = key)
theorem noM.down {a : AS} {t k b fl : Nat} {key : Int64} (hk : k < 8) (h : noM a t k key b) (hp : isP (aH a) (md_h t k key) b fl) : noM a t k key fl := fun m m1 m2 m3 => by
  rcases Nat.lt_or_ge b m with z | z
  · exact h m z m2 m3
  · rcases hp with ⟨_, w⟩ | ⟨_, _, _, w⟩
    · exact w m (by omega) z (md_hash hk m3)
    · exact w m m1 z (md_hash hk m3)
theorem noM.zero {a : AS} {t k : Nat} {key : Int64} (h : noM a t k key 0) : aF a (t * 8 + k) key = 0 := fnd_zero (fun j j1 j2 => h j (by omega) j2)
theorem noM.step {a : AS} {t k fl : Nat} {key : Int64} (h : noM a t k key fl) (hn : ¬ (aO a fl = t * 8 + k ∧ aK a fl = key)) : noM a t k key (fl - 1) := fun m m1 m2 m3 => by
  rcases Nat.lt_or_ge fl m with z | z
  · exact h m z m2 m3
  · rw [show m = fl by omega] at m3; exact hn m3
theorem isP.facts {hs : Nat → Nat} {c n f : Nat} (h : isP hs c n f) (hf : f ≠ 0) : 1 ≤ f ∧ f ≤ n ∧ hs f = c := by
  rcases h with ⟨z, _⟩ | ⟨z1, z2, z3, _⟩
  · exact absurd z hf
  · exact ⟨z1, z2, z3⟩
theorem cpz_lt {f : Nat → Nat} {n b : Nat} (h : ∀ i, f i < b) (hb : 0 < b) : ∀ i, cpz f (fun _ => 0) n i < b := fun i => by
  unfold cpz; split
  · exact h i
  · exact hb
theorem cpz_le {f : Nat → Nat} {n b : Nat} (h : ∀ i, f i ≤ b) : ∀ i, cpz f (fun _ => 0) n i ≤ b := fun i => by
  unfold cpz; split
  · exact h i
  · exact Nat.zero_le _
theorem cpz_nil {f : Nat → Nat} {g : Nat → Int64} {n : Nat} (h : ∀ i, f i = 0 → g i = 0) : ∀ i, cpz f (fun _ => 0) n i = 0 → cpz g (fun _ => 0) n i = 0 := fun i e => by
  unfold cpz at e ⊢
  split
  · rename_i q; rw [if_pos q] at e; exact h i e
  · rfl
