theorem cnt_pos {f : Nat → Int32} {v : Int32} {l : Nat} : ∀ {k : Nat}, 0 < cnt f v l k → ∃ j : Nat, j < k ∧ f (l + j) = v
  | 0, h => absurd h (Nat.lt_irrefl 0)
  | k + 1, h => by
    by_cases h1 : f (l + k) = v
    · exact ⟨k, Nat.lt_succ_self k, h1⟩
    · simp only [cnt] at h
      rw [if_neg h1] at h
      obtain ⟨j, hj, e⟩ := cnt_pos (k := k) h
      exact ⟨j, by omega, e⟩
theorem cnt_mem {f : Nat → Int32} {v : Int32} {l j : Nat} (e : f (l + j) = v) : ∀ {k : Nat}, j < k → 0 < cnt f v l k
  | 0, h => absurd h (Nat.not_lt_zero j)
  | k + 1, h => by
    simp only [cnt]
    rcases Nat.lt_or_eq_of_le (Nat.le_of_lt_succ h) with h9 | h9
    · have := cnt_mem (k := k) e h9
      omega
    · subst h9
      rw [if_pos e]
      omega
def mj_vals (f : Nat → Int32) : Nat → Nat
  | 0 => 0
  | k + 1 => mj_vals f k + (if cnt f (f k) 0 k = 0 then 1 else 0)
theorem mj_vals_yes {f : Nat → Int32} {k k2 : Nat} (h : cnt f (f k) 0 k = 0) (e : k2 = k + 1) : mj_vals f k2 = mj_vals f k + 1 := by
  subst e
  simp only [mj_vals]
  rw [if_pos h]
theorem mj_vals_no {f : Nat → Int32} {k k2 : Nat} (h : ¬ cnt f (f k) 0 k = 0) (e : k2 = k + 1) : mj_vals f k2 = mj_vals f k := by
  subst e
  simp only [mj_vals]
  rw [if_neg h]
  omega
theorem mj_vals_le (f : Nat → Int32) : ∀ k : Nat, mj_vals f k ≤ k
  | 0 => Nat.le_refl 0
  | k + 1 => by
    have := mj_vals_le f k
    simp only [mj_vals]
    split <;> omega
/-- each place's first like one -/
def mj_kd (f fk : Nat → Int32) (n : Nat) : Prop := ∀ k : Nat, k < n → 0 ≤ (fk k).toInt ∧ (fk k).toInt ≤ (k : Int) ∧ f (fk k).toNatClampNeg = f k ∧ ∀ j : Nat, j < (fk k).toNatClampNeg → ¬ f j = f k
theorem mj_kd_0 (f fk : Nat → Int32) {n : Nat} (h : n = 0) : mj_kd f fk n := fun k hk => absurd hk (by omega)
theorem mj_kd_put {f fk : Nat → Int32} {n n2 : Nat} {x : Int32} (h : mj_kd f fk n) (e : n2 = n + 1) (h0 : 0 ≤ x.toInt) (h1 : x.toInt ≤ (n : Int)) (h2 : f x.toNatClampNeg = f n) (h3 : ∀ j : Nat, j < x.toNatClampNeg → ¬ f j = f n) : mj_kd f (upd fk n x) n2 := by
  subst e
  intro k hk
  by_cases hkn : k = n
  · subst hkn
    rw [upd_at]
    exact ⟨h0, h1, h2, h3⟩
  · rw [upd_ne hkn]
    exact h k (by omega)
theorem mj_kd_ok {f fk : Nat → Int32} {n : Nat} {m : Int} (h : mj_kd f fk n) (e : (n : Int) = m) : kindOk fk m := fun k hk => ⟨(h k (by omega)).1, (h k (by omega)).2.1⟩
theorem mj_kd_own {f fk : Nat → Int32} {n k : Nat} (h : mj_kd f fk n) (hk : k < n) : (fk k).toInt = (k : Int) ↔ cnt f (f k) 0 k = 0 := by
  obtain ⟨h0, h1, h2, h3⟩ := h k hk
  have hn := ki_nat (fk k) rfl h0
  constructor
  · intro e
    rcases Nat.eq_zero_or_pos (cnt f (f k) 0 k) with h9 | h9
    · exact h9
    · obtain ⟨j, hj, q⟩ := cnt_pos h9
      rw [Nat.zero_add] at q
      exact absurd q (h3 j (by omega))
  · intro e
    rcases Int.lt_or_eq_of_le h1 with h9 | h9
    · have := cnt_mem (f := f) (v := f k) (l := 0) (j := (fk k).toNatClampNeg) (by rw [Nat.zero_add]; exact h2) (k := k) (by omega)
      omega
    · exact h9

