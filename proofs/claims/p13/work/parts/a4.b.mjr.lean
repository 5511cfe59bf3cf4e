theorem cnt_hit1 {f : Nat → Int32} {v : Int32} {l k k2 : Nat} (e : f (l + k) = v) (h : k2 = k + 1) : cnt f v l k2 = cnt f v l k + 1 := by
  subst h
  simp only [cnt]
  rw [if_pos e]
theorem cnt_miss1 {f : Nat → Int32} {v : Int32} {l k k2 : Nat} (e : ¬ f (l + k) = v) (h : k2 = k + 1) : cnt f v l k2 = cnt f v l k := by
  subst h
  simp only [cnt]
  rw [if_neg e]
  omega
def mj_first (P : Nat → Prop) (lo hi : Nat) (none x : Int) : Prop := (∃ m : Nat, lo ≤ m ∧ m < hi ∧ P m ∧ x = (m : Int) ∧ ∀ k : Nat, lo ≤ k → k < m → ¬ P k) ∨ (x = none ∧ ∀ k : Nat, lo ≤ k → k < hi → ¬ P k)
theorem mj_first_uni {P : Nat → Prop} {lo hi : Nat} {none x y : Int} (h : mj_first P lo hi none x) (h2 : mj_first P lo hi none y) : x = y := by
  rcases h with ⟨m, a1, a2, a3, a4, a5⟩ | ⟨a1, a2⟩ <;> rcases h2 with ⟨n, b1, b2, b3, b4, b5⟩ | ⟨b1, b2⟩
  · rcases Nat.lt_trichotomy m n with h | h | h
    · exact absurd a3 (b5 m a1 h)
    · omega
    · exact absurd b3 (a5 n b1 h)
  · exact absurd a3 (b2 m a1 a2)
  · exact absurd b3 (a2 n b1 b2)
  · omega
def mj_plc (f : Nat → Int32) (v : Int32) (k : Int) (i : Nat) : Prop := f i = v ∧ (cnt f v 0 i : Int) = k

