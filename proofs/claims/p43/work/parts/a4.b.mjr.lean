/-! counting, first ones, majorities -/
theorem cnt_two {f : Nat → Int32} {v w : Int32} (h : ¬ v = w) (l : Nat) : ∀ k : Nat, cnt f v l k + cnt f w l k ≤ k
  | 0 => Nat.le_refl 0
  | k + 1 => by
    have ih := cnt_two (f := f) h l k
    simp only [cnt]
    by_cases h1 : f (l + k) = v
    · rw [if_pos h1, if_neg (fun e => h (h1.symm.trans e))]
      omega
    · rw [if_neg h1]
      split <;> omega
theorem cnt_pos {f : Nat → Int32} {v : Int32} {l : Nat} : ∀ {k : Nat}, 0 < cnt f v l k → ∃ j : Nat, j < k ∧ f (l + j) = v
  | 0, h => absurd h (Nat.lt_irrefl 0)
  | k + 1, h => by
    by_cases h1 : f (l + k) = v
    · exact ⟨k, Nat.lt_succ_self k, h1⟩
    · simp only [cnt] at h
      rw [if_neg h1] at h
      obtain ⟨j, hj, e⟩ := cnt_pos (k := k) h
      exact ⟨j, by omega, e⟩
theorem cnt_hit1 {f : Nat → Int32} {v : Int32} {l k k2 : Nat} (e : f (l + k) = v) (h : k2 = k + 1) : cnt f v l k2 = cnt f v l k + 1 := by
  subst h
  simp only [cnt]
  rw [if_pos e]
theorem cnt_miss1 {f : Nat → Int32} {v : Int32} {l k k2 : Nat} (e : ¬ f (l + k) = v) (h : k2 = k + 1) : cnt f v l k2 = cnt f v l k := by
  subst h
  simp only [cnt]
  rw [if_neg e]
  omega
theorem mj_maj_uni {f : Nat → Int32} {l r : Nat} {v w : Int32} (h : mj_maj f l r v) (h2 : mj_maj f l r w) : v = w := by
  by_cases e : v = w
  · exact e
  · exfalso
    rcases h with ⟨k, a1, a2, a3, a4⟩ | ⟨a1, a2⟩ <;> rcases h2 with ⟨j, b1, b2, b3, b4⟩ | ⟨b1, b2⟩
    · have := cnt_two (f := f) e l (r - l)
      omega
    · have := b2 k a1 a2
      rw [a3] at this
      omega
    · have := a2 j b1 b2
      rw [b3] at this
      omega
    · exact e (a1.trans b1.symm)
/-- votes of unlike ones cancelled: what is left, by how much -/
def mj_bm (f : Nat → Int32) (l : Nat) (v : Int32) (n : Nat) (lead : Int) : Prop := 0 ≤ lead ∧ 2 * (cnt f v l n : Int) ≤ (n : Int) + lead ∧ ∀ w : Int32, ¬ w = v → 2 * (cnt f w l n : Int) ≤ (n : Int) - lead
theorem mj_bm_0 (f : Nat → Int32) (l : Nat) (v : Int32) {n : Nat} {lead : Int} (hn : n = 0) (h : lead = 0) : mj_bm f l v n lead := by
  subst hn; subst h
  exact ⟨Int.le_refl 0, Int.le_refl 0, fun w _ => Int.le_refl 0⟩
theorem mj_bm_new {f : Nat → Int32} {l n n2 : Nat} {v x : Int32} {lead : Int} (h : mj_bm f l v n lead) (h0 : lead = 0) (e : x = f (l + n)) (en : n2 = n + 1) : mj_bm f l x n2 1 := by
  obtain ⟨-, h2, h3⟩ := h
  subst h0
  have all : ∀ w : Int32, 2 * (cnt f w l n : Int) ≤ (n : Int) := fun w => by
    by_cases hw : w = v
    · subst hw; omega
    · have := h3 w hw; omega
  refine ⟨by omega, ?_, fun w hw => ?_⟩
  · rw [cnt_hit1 e.symm en]
    have := all x
    omega
  · rw [cnt_miss1 (fun q => hw (q.symm.trans e.symm)) en]
    have := all w
    omega
theorem mj_bm_up {f : Nat → Int32} {l n n2 : Nat} {v : Int32} {lead lead2 : Int} (h : mj_bm f l v n lead) (e : f (l + n) = v) (en : n2 = n + 1) (el : lead2 = lead + 1) : mj_bm f l v n2 lead2 := by
  obtain ⟨h1, h2, h3⟩ := h
  refine ⟨by omega, ?_, fun w hw => ?_⟩
  · rw [cnt_hit1 e en]
    omega
  · rw [cnt_miss1 (fun q => hw (q.symm.trans e)) en]
    have := h3 w hw
    omega
theorem mj_bm_down {f : Nat → Int32} {l n n2 : Nat} {v : Int32} {lead lead2 : Int} (h : mj_bm f l v n lead) (h0 : ¬ lead = 0) (e : ¬ f (l + n) = v) (en : n2 = n + 1) (el : lead2 = lead - 1) : mj_bm f l v n2 lead2 := by
  obtain ⟨h1, h2, h3⟩ := h
  refine ⟨by omega, ?_, fun w hw => ?_⟩
  · rw [cnt_miss1 e en]
    omega
  · have := h3 w hw
    by_cases hx : f (l + n) = w
    · rw [cnt_hit1 hx en]
      omega
    · rw [cnt_miss1 hx en]
      omega
theorem mj_bm_yes {f : Nat → Int32} {l r n : Nat} {v : Int32} (hn : n = r - l) (h : (n : Int) < 2 * (cnt f v l n : Int)) : mj_maj f l r v := by
  subst hn
  obtain ⟨j, hj, e⟩ := cnt_pos (f := f) (v := v) (l := l) (k := r - l) (by omega)
  exact Or.inl ⟨l + j, by omega, by omega, e, h⟩
theorem mj_bm_no {f : Nat → Int32} {l r n : Nat} {v : Int32} {lead : Int} (hn : n = r - l) (hb : mj_bm f l v n lead) (h : 2 * (cnt f v l n : Int) ≤ (n : Int)) : mj_maj f l r (-40000) := by
  subst hn
  obtain ⟨h1, h2, h3⟩ := hb
  refine Or.inr ⟨rfl, fun k a b => ?_⟩
  by_cases hk : f k = v
  · rw [hk]; exact h
  · have := h3 _ hk
    omega
def mj_first (P : Nat → Prop) (lo hi : Nat) (none x : Int) : Prop := (∃ m : Nat, lo ≤ m ∧ m < hi ∧ P m ∧ x = (m : Int) ∧ ∀ k : Nat, lo ≤ k → k < m → ¬ P k) ∨ (x = none ∧ ∀ k : Nat, lo ≤ k → k < hi → ¬ P k)
def mj_cutP (f : Nat → Int32) (l r m : Nat) : Prop := ∃ a b : Int32, mj_maj f l m a ∧ mj_maj f m r b ∧ ¬ a = -40000 ∧ ¬ b = -40000 ∧ ¬ a = b
theorem mj_cut_no {f : Nat → Int32} {l r m : Nat} {a b : Int32} (ha : mj_maj f l m a) (hb : mj_maj f m r b) (h : a = -40000 ∨ b = -40000 ∨ a = b) : ¬ mj_cutP f l r m := by
  rintro ⟨x, y, h1, h2, h3, h4, h5⟩
  have e1 := mj_maj_uni h1 ha
  have e2 := mj_maj_uni h2 hb
  subst e1; subst e2
  rcases h with h | h | h
  · exact h3 h
  · exact h4 h
  · exact h5 h

