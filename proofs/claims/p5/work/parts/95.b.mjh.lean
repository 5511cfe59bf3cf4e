/-! what is heavy, majorities -/
def mj_maj (f : Nat → Int32) (l r : Nat) (v : Int32) : Prop := (∃ k : Nat, l ≤ k ∧ k < r ∧ f k = v ∧ ((r - l : Nat) : Int) < 2 * (cnt f v l (r - l) : Int)) ∨ (v = -40000 ∧ ∀ k : Nat, l ≤ k → k < r → 2 * (cnt f (f k) l (r - l) : Int) ≤ ((r - l : Nat) : Int))
theorem mj_maj_one {f : Nat → Int32} {l r : Nat} {v : Int32} (h : mj_maj f l r v) (hs : shorts f) (hl : l < 160) (e : v = -40000) : ¬ r = l + 1 := by
  intro er
  subst er
  subst e
  have e1 : l + 1 - l = 0 + 1 := by omega
  rcases h with ⟨k, h1, h2, h3, -⟩ | ⟨-, h⟩
  · have := hs k (by omega)
    rw [h3] at this
    have k0 : (-40000 : Int32).toInt = -40000 := rfl
    omega
  · have := h l (Nat.le_refl l) (by omega)
    rw [e1] at this
    simp only [cnt, Nat.add_zero, if_pos] at this
    omega
theorem ki_mulb {a b : Int} {A B : Int} (h1 : 0 ≤ a) (h2 : a ≤ A) (h3 : 0 ≤ b) (h4 : b ≤ B) : 0 ≤ a * b ∧ a * b ≤ A * B :=
  ⟨Int.mul_nonneg h1 h3, Int.mul_le_mul h2 h4 h3 (by omega)⟩
theorem ki_mulpos {a b z : Int} (h : z < a * b) (hz : 0 ≤ z) (ha : 0 ≤ a) : 0 < a := by
  rcases Int.lt_or_eq_of_le ha with h1 | h1
  · exact h1
  · rw [← h1, Int.zero_mul] at h
    omega
def nodesOk (nl nr : Nat → Int32) (nd : Int) : Prop := ∀ k : Nat, (k : Int) < nd → 0 ≤ (nl k).toInt ∧ (nl k).toInt < (nr k).toInt ∧ (nr k).toInt ≤ 160
/-! the row changed -/
def mj_fill (f : Nat → Int32) (l r : Nat) (v : Int32) : Nat → Int32 := fun k => if l ≤ k ∧ k < r then v else f k
theorem mj_fill_0 (f : Nat → Int32) {l r : Nat} (v : Int32) (h : r ≤ l) : mj_fill f l r v = f := by
  funext k
  unfold mj_fill
  rw [if_neg (by omega)]
theorem mj_fill_step {f : Nat → Int32} {l r r2 : Nat} {v : Int32} (h : l ≤ r) (e : r2 = r + 1) : upd (mj_fill f l r v) r v = mj_fill f l r2 v := by
  subst e
  funext k
  by_cases hk : k = r
  · subst hk
    rw [upd_at]
    unfold mj_fill
    rw [if_pos (by omega)]
  · rw [upd_ne hk]
    unfold mj_fill
    by_cases h2 : l ≤ k ∧ k < r
    · rw [if_pos h2, if_pos (by omega)]
    · rw [if_neg h2, if_neg (by omega)]
theorem shorts_fill {f : Nat → Int32} {l r : Nat} {v : Int32} (h : shorts f) (h1 : -32768 ≤ v.toInt) (h2 : v.toInt ≤ 32767) : shorts (mj_fill f l r v) := by
  intro k hk
  unfold mj_fill
  split
  · exact ⟨h1, h2⟩
  · exact h k hk
/-- the first n of the one side and of the other have changed their places -/
def mj_tu (f : Nat → Int32) (l r n : Nat) : Nat → Int32 := fun k => if (l ≤ k ∧ k < l + n) ∨ (r - n ≤ k ∧ k < r) then f (l + r - 1 - k) else f k
def mj_turn (f : Nat → Int32) (l r : Nat) : Nat → Int32 := fun k => if l ≤ k ∧ k < r then f (l + r - 1 - k) else f k
theorem mj_tu_0 (f : Nat → Int32) (l r : Nat) {n : Nat} (h : n = 0) : mj_tu f l r n = f := by
  funext k
  unfold mj_tu
  rw [if_neg (by omega)]
theorem mj_tu_step {f : Nat → Int32} {l r n n2 i j : Nat} (hi : i = l + n) (hj : j = r - 1 - n) (hij : i < j) (hr : j < r) (e : n2 = n + 1) : mj_ex (mj_tu f l r n) i j = mj_tu f l r n2 := by
  subst hi; subst hj; subst e
  funext k
  by_cases h1 : k = l + n
  · subst h1
    rw [mj_ex_i]
    unfold mj_tu
    rw [if_neg (by omega), if_pos (by omega)]
    congr 1
    omega
  · by_cases h2 : k = r - 1 - n
    · subst h2
      rw [mj_ex_k]
      unfold mj_tu
      rw [if_neg (by omega), if_pos (by omega)]
      congr 1
      omega
    · rw [mj_ex_o h1 h2]
      unfold mj_tu
      by_cases h3 : (l ≤ k ∧ k < l + n) ∨ (r - n ≤ k ∧ k < r)
      · rw [if_pos h3, if_pos (by omega)]
      · rw [if_neg h3, if_neg (by omega)]
theorem mj_tu_end {f : Nat → Int32} {l r n : Nat} (hl : l < r) (h1 : r ≤ l + 2 * n + 1) (h2 : l + 2 * n ≤ r) : mj_tu f l r n = mj_turn f l r := by
  funext k
  unfold mj_tu mj_turn
  by_cases h3 : l ≤ k ∧ k < r
  · rw [if_pos h3]
    by_cases h4 : (l ≤ k ∧ k < l + n) ∨ (r - n ≤ k ∧ k < r)
    · rw [if_pos h4]
    · rw [if_neg h4]
      congr 1
      omega
  · rw [if_neg h3, if_neg (by omega)]
theorem shorts_mex {f : Nat → Int32} {i j : Nat} (h : shorts f) (hi : i < 160) (hj : j < 160) : shorts (mj_ex f i j) := by
  intro k hk
  rw [mj_ex_sw]
  exact h _ (mj_sw_lt hi hj hk)
theorem shorts_turn {f : Nat → Int32} {l r : Nat} (h : shorts f) (hr : r ≤ 160) : shorts (mj_turn f l r) := by
  intro k hk
  unfold mj_turn
  split
  · exact h _ (by omega)
  · exact h k hk


