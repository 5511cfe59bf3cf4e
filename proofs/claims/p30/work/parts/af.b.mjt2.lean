/-- one of two that belong together -/
def mj_ex2 (P : Int → Int → Prop) (a i j x : Int) : Prop := ∃ u v : Int, P u v ∧ ((a = i ∧ x = u) ∨ (a = j ∧ x = v))
/-! how often each value is among the places taken -/
def mj_ka (f : Nat → Int32) (κ : Nat → Nat) (n : Nat) : Prop := ∀ i j : Nat, i < n → j < n → (κ i = κ j ↔ f i = f j)
def mj_tl (f : Nat → Int32) (κ : Nat → Nat) (fq : Nat → Int32) (n l m : Nat) (most : Int) : Prop := (∀ k : Nat, k < n → (fq (κ k)).toInt = (cnt f (f k) l m : Int)) ∧ (∀ k : Nat, k < n → (cnt f (f k) l m : Int) ≤ most) ∧ (most = 0 ∨ ∃ k : Nat, l ≤ k ∧ k < l + m ∧ (cnt f (f k) l m : Int) = most)
theorem mj_ka_kd {f fk : Nat → Int32} {n : Nat} (h : mj_kd f fk n) : mj_ka f (fun k => (fk k).toNatClampNeg) n := by
  intro i j hi hj
  obtain ⟨a0, a1, a2, a3⟩ := h i hi
  obtain ⟨b0, b1, b2, b3⟩ := h j hj
  dsimp only
  constructor
  · intro e
    rw [← a2, ← b2, e]
  · intro e
    rcases Nat.lt_trichotomy (fk i).toNatClampNeg (fk j).toNatClampNeg with h9 | h9 | h9
    · exact absurd (a2.trans e) (b3 _ h9)
    · exact h9
    · exact absurd (b2.trans e.symm) (a3 _ h9)
theorem mj_tl_0 (f : Nat → Int32) (κ : Nat → Nat) {fq : Nat → Int32} (n l : Nat) {m : Nat} (hm : m = 0) (hz : ∀ k : Nat, k < n → fq (κ k) = 0) : mj_tl f κ fq n l m 0 := by
  subst hm
  refine ⟨fun k hk => ?_, fun k _ => Int.le_refl 0, Or.inl rfl⟩
  rw [hz k hk]
  rfl
theorem mj_tl_take {f : Nat → Int32} {κ : Nat → Nat} {fq : Nat → Int32} {n l m m2 p : Nat} {most most2 : Int} {x : Int32} (hk : mj_ka f κ n) (h : mj_tl f κ fq n l m most) (hp : p = l + m) (hpn : p < n) (hm : m2 = m + 1) (ex : x.toInt = (fq (κ p)).toInt + 1) (hmost : (most < x.toInt ∧ most2 = x.toInt) ∨ (x.toInt ≤ most ∧ most2 = most)) : mj_tl f κ (upd fq (κ p) x) n l m2 most2 := by
  obtain ⟨h1, h2, h3⟩ := h
  subst hp
  have hx : x.toInt = (cnt f (f (l + m)) l m : Int) + 1 := by rw [ex, h1 _ hpn]
  have yes : ∀ k : Nat, f k = f (l + m) → cnt f (f k) l m2 = cnt f (f k) l m + 1 := fun k e => cnt_hit1 e.symm hm
  have no : ∀ k : Nat, ¬ f k = f (l + m) → cnt f (f k) l m2 = cnt f (f k) l m := fun k e => cnt_miss1 (fun q => e q.symm) hm
  refine ⟨fun k hkn => ?_, fun k hkn => ?_, ?_⟩
  · by_cases e : f k = f (l + m)
    · rw [(hk k (l + m) hkn hpn).mpr e, upd_at, yes k e, hx, e]
      omega
    · rw [upd_ne (fun q => e ((hk k (l + m) hkn hpn).mp q)), no k e]
      exact h1 k hkn
  · have a := h2 k hkn
    by_cases e : f k = f (l + m)
    · rw [yes k e, e]
      rw [e] at a
      omega
    · rw [no k e]
      omega
  · rcases hmost with ⟨a, b⟩ | ⟨a, b⟩
    · refine Or.inr ⟨l + m, by omega, by omega, ?_⟩
      rw [yes _ rfl, b, hx]
      omega
    · rcases h3 with h3 | ⟨k, k1, k2, k3⟩
      · omega
      · refine Or.inr ⟨k, k1, by omega, ?_⟩
        have ne : ¬ f k = f (l + m) := fun e => by
          rw [e] at k3
          omega
        rw [no k ne, b]
        exact k3
def mj_hm (f : Nat → Int32) (l m : Nat) : Prop := ∃ k : Nat, l ≤ k ∧ k < l + m ∧ m < 2 * cnt f (f k) l m
theorem mj_tl_hm {f : Nat → Int32} {κ : Nat → Nat} {fq : Nat → Int32} {n l m : Nat} {most : Int} (h : mj_tl f κ fq n l m most) (hn : l + m ≤ n) : (m : Int) < 2 * most ↔ mj_hm f l m := by
  obtain ⟨h1, h2, h3⟩ := h
  constructor
  · intro hm
    rcases h3 with h3 | ⟨k, k1, k2, k3⟩
    · omega
    · exact ⟨k, k1, k2, by omega⟩
  · rintro ⟨k, k1, k2, k3⟩
    have := h2 k (by omega)
    omega
theorem mj_maj_hm {f : Nat → Int32} {l r : Nat} {v : Int32} (h : mj_maj f l r v) (hs : shorts f) (hr : r ≤ 160) (hl : l ≤ r) : (¬ v = -40000) ↔ mj_hm f l (r - l) := by
  rcases h with ⟨k, k1, k2, k3, k4⟩ | ⟨e, h⟩
  · constructor
    · intro _
      exact ⟨k, k1, by omega, by rw [k3]; omega⟩
    · intro _ e
      have := hs k (by omega)
      rw [k3, e] at this
      have k0 : (-40000 : Int32).toInt = -40000 := rfl
      omega
  · constructor
    · intro hne
      exact absurd e hne
    · rintro ⟨k, k1, k2, k3⟩
      have := h k k1 (by omega)
      omega
def mj_lst (P : Nat → Prop) (lo hi : Nat) (x : Int) : Prop := (∃ m : Nat, lo < m ∧ m ≤ hi ∧ P m ∧ x = (m : Int) ∧ ∀ k : Nat, m < k → k ≤ hi → ¬ P k) ∨ (x = -1 ∧ ∀ k : Nat, lo < k → k ≤ hi → ¬ P k)
theorem mj_lst_yes {P : Nat → Prop} {lo hi hi2 : Nat} {x : Int} (e : hi2 = hi + 1) (hlo : lo ≤ hi) (hp : P hi2) (hx : x = (hi2 : Int)) : mj_lst P lo hi2 x := Or.inl ⟨hi2, by omega, Nat.le_refl _, hp, hx, fun k h1 h2 => by omega⟩
theorem mj_lst_no {P : Nat → Prop} {lo hi hi2 : Nat} {x : Int} (h : mj_lst P lo hi x) (e : hi2 = hi + 1) (hp : ¬ P hi2) : mj_lst P lo hi2 x := by
  subst e
  have ext : ∀ k : Nat, k ≤ hi + 1 → (k ≤ hi → ¬ P k) → ¬ P k := fun k h1 h2 => by
    rcases Nat.lt_or_eq_of_le h1 with h9 | h9
    · exact h2 (by omega)
    · rw [h9]; exact hp
  rcases h with ⟨m, a1, a2, a3, a4, a5⟩ | ⟨a1, a2⟩
  · exact Or.inl ⟨m, a1, by omega, a3, a4, fun k h1 h2 => ext k h2 (fun h => a5 k h1 h)⟩
  · exact Or.inr ⟨a1, fun k h1 h2 => ext k h2 (fun h => a2 k h1 h)⟩
noncomputable def mj_hN (f : Nat → Int32) (l m : Nat) : Nat := @ite Nat (mj_hm f l m) (Classical.propDecidable _) 1 0
theorem mj_hN_yes {f : Nat → Int32} {l m : Nat} (h : mj_hm f l m) : mj_hN f l m = 1 := by unfold mj_hN; exact if_pos h
theorem mj_hN_no {f : Nat → Int32} {l m : Nat} (h : ¬ mj_hm f l m) : mj_hN f l m = 0 := by unfold mj_hN; exact if_neg h
noncomputable def mj_mc (f : Nat → Int32) (l : Nat) : Nat → Nat
  | 0 => 0
  | m + 1 => mj_mc f l m + mj_hN f l (m + 1)
noncomputable def mj_ms (f : Nat → Int32) (n : Nat) : Nat → Nat
  | 0 => 0
  | l + 1 => mj_ms f n l + mj_mc f l (n - l)
theorem mj_mc_le (f : Nat → Int32) (l : Nat) : ∀ m : Nat, mj_mc f l m ≤ m
  | 0 => Nat.le_refl 0
  | m + 1 => by
    have := mj_mc_le f l m
    have h : mj_hN f l (m + 1) ≤ 1 := by
      by_cases h : mj_hm f l (m + 1)
      · rw [mj_hN_yes h]; exact Nat.le_refl 1
      · rw [mj_hN_no h]; exact Nat.zero_le 1
    simp only [mj_mc]
    omega
theorem mj_ms_le (f : Nat → Int32) (n : Nat) : ∀ l : Nat, mj_ms f n l ≤ n * l
  | 0 => Nat.zero_le _
  | l + 1 => by
    have a := mj_ms_le f n l
    have b := mj_mc_le f l (n - l)
    simp only [mj_ms]
    rw [Nat.mul_succ]
    omega
/-! the reference's numbers of the values -/
def mj_wh (f fw : Nat → Int32) (n : Nat) (next : Int) : Prop := (∀ i : Nat, i < n → 0 ≤ (fw i).toInt ∧ (fw i).toInt < next) ∧ ∀ i j : Nat, i < n → j < n → ((fw i).toInt = (fw j).toInt ↔ f i = f j)
theorem mj_wh_0 (f fw : Nat → Int32) {n : Nat} {next : Int} (h : n = 0) : mj_wh f fw n next := ⟨fun i hi => absurd hi (by omega), fun i j hi => absurd hi (by omega)⟩
theorem mj_wh_new {f fw : Nat → Int32} {n n2 : Nat} {next next2 : Int} {x : Int32} (h : mj_wh f fw n next) (h0 : 0 ≤ next) (hx : x.toInt = next) (hn : ∀ j : Nat, j < n → ¬ f j = f n) (e : n2 = n + 1) (e2 : next2 = next + 1) : mj_wh f (upd fw n x) n2 next2 := by
  subst e; subst e2
  have old : ∀ i : Nat, i < n → upd fw n x i = fw i := fun i hi => upd_ne (by omega)
  refine ⟨fun i hi => ?_, fun i j hi hj => ?_⟩
  · by_cases q : i = n
    · subst q; rw [upd_at]; omega
    · rw [old i (by omega)]
      have := h.1 i (by omega)
      omega
  · by_cases q : i = n
    · by_cases q2 : j = n
      · subst q; subst q2; exact ⟨fun _ => rfl, fun _ => rfl⟩
      · subst q
        rw [upd_at, old j (by omega)]
        have := h.1 j (by omega)
        exact ⟨fun e => by omega, fun e => absurd e.symm (hn j (by omega))⟩
    · by_cases q2 : j = n
      · subst q2
        rw [upd_at, old i (by omega)]
        have := h.1 i (by omega)
        exact ⟨fun e => by omega, fun e => absurd e (hn i (by omega))⟩
      · rw [old i (by omega), old j (by omega)]
        exact h.2 i j (by omega) (by omega)
theorem mj_wh_like {f fw : Nat → Int32} {n n2 k : Nat} {next : Int} {x : Int32} (h : mj_wh f fw n next) (hk : k < n) (hf : f k = f n) (hx : x.toInt = (fw k).toInt) (e : n2 = n + 1) : mj_wh f (upd fw n x) n2 next := by
  subst e
  have old : ∀ i : Nat, i < n → upd fw n x i = fw i := fun i hi => upd_ne (by omega)
  have hk1 := h.1 k hk
  refine ⟨fun i hi => ?_, fun i j hi hj => ?_⟩
  · by_cases q : i = n
    · subst q; rw [upd_at]; omega
    · rw [old i (by omega)]
      exact h.1 i (by omega)
  · by_cases q : i = n
    · by_cases q2 : j = n
      · subst q; subst q2; exact ⟨fun _ => rfl, fun _ => rfl⟩
      · subst q
        rw [upd_at, old j (by omega), hx, ← hf]
        exact h.2 k j hk (by omega)
    · by_cases q2 : j = n
      · subst q2
        rw [upd_at, old i (by omega), hx, ← hf]
        exact h.2 i k (by omega) hk
      · rw [old i (by omega), old j (by omega)]
        exact h.2 i j (by omega) (by omega)
theorem mj_ka_wh {f fw : Nat → Int32} {n : Nat} {next : Int} (h : mj_wh f fw n next) : mj_ka f (fun k => (fw k).toNatClampNeg) n := by
  intro i j hi hj
  have a := h.1 i hi
  have b := h.1 j hj
  have n1 := ki_nat (fw i) rfl a.1
  have n2 := ki_nat (fw j) rfl b.1
  dsimp only
  rw [← h.2 i j hi hj]
  omega

theorem mj_ms_b {f : Nat → Int32} {n l : Nat} (hn : n ≤ 160) (hl : l ≤ 160) : mj_ms f n l ≤ 25600 := Nat.le_trans (mj_ms_le f n l) (Nat.mul_le_mul hn hl)


