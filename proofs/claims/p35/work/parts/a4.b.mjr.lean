/-! counting, first ones, majorities -/
theorem cnt_two {f : Nat → Int32} {v w : Int32} (h : ¬ v = w) (l : Nat) : ∀ k : Nat, cnt f v l k + cnt f w l k ≤ k
  | 0 => Nat.le_refl 0
  | k + 1 => by
    have ih := cnt_two (f := f) h l k
    simp only [cnt]
    by_cases h1 : f (l + k) = v
    · rw [if_pos h1, if_neg (fun e => h (h1.symm.trans e))]
      omega
    · rw [if_neg h1]
      split <;> omega
theorem cnt_hit1 {f : Nat → Int32} {v : Int32} {l k k2 : Nat} (e : f (l + k) = v) (h : k2 = k + 1) : cnt f v l k2 = cnt f v l k + 1 := by
  subst h
  simp only [cnt]
  rw [if_pos e]
theorem cnt_miss1 {f : Nat → Int32} {v : Int32} {l k k2 : Nat} (e : ¬ f (l + k) = v) (h : k2 = k + 1) : cnt f v l k2 = cnt f v l k := by
  subst h
  simp only [cnt]
  rw [if_neg e]
  omega
theorem mj_maj_uni {f : Nat → Int32} {l r : Nat} {v w : Int32} (h : mj_maj f l r v) (h2 : mj_maj f l r w) : v = w := by
  by_cases e : v = w
  · exact e
  · exfalso
    rcases h with ⟨k, a1, a2, a3, a4⟩ | ⟨a1, a2⟩ <;> rcases h2 with ⟨j, b1, b2, b3, b4⟩ | ⟨b1, b2⟩
    · have := cnt_two (f := f) e l (r - l)
      omega
    · have := b2 k a1 a2
      rw [a3] at this
      omega
    · have := a2 j b1 b2
      rw [b3] at this
      omega
    · exact e (a1.trans b1.symm)
def mj_first (P : Nat → Prop) (lo hi : Nat) (none x : Int) : Prop := (∃ m : Nat, lo ≤ m ∧ m < hi ∧ P m ∧ x = (m : Int) ∧ ∀ k : Nat, lo ≤ k → k < m → ¬ P k) ∨ (x = none ∧ ∀ k : Nat, lo ≤ k → k < hi → ¬ P k)
def mj_cutP (f : Nat → Int32) (l r m : Nat) : Prop := ∃ a b : Int32, mj_maj f l m a ∧ mj_maj f m r b ∧ ¬ a = -40000 ∧ ¬ b = -40000 ∧ ¬ a = b
theorem mj_cut_no {f : Nat → Int32} {l r m : Nat} {a b : Int32} (ha : mj_maj f l m a) (hb : mj_maj f m r b) (h : a = -40000 ∨ b = -40000 ∨ a = b) : ¬ mj_cutP f l r m := by
  rintro ⟨x, y, h1, h2, h3, h4, h5⟩
  have e1 := mj_maj_uni h1 ha
  have e2 := mj_maj_uni h2 hb
  subst e1; subst e2
  rcases h with h | h | h
  · exact h3 h
  · exact h4 h
  · exact h5 h

