theorem upd_at (f : Nat → Int32) (k : Nat) (x : Int32) : upd f k x k = x := by
  unfold upd; rw [if_pos rfl]
theorem upd_ne {f : Nat → Int32} {k j : Nat} {x : Int32} (h : ¬ j = k) : upd f k x j = f j := by
  unfold upd; rw [if_neg h]
def mj_lea (V N : Nat → Int32) (i j : Nat) : Prop := (N j).toInt < (N i).toInt ∨ ((N i).toInt = (N j).toInt ∧ (V i).toInt ≤ (V j).toInt)
def mj_vs (V N : Nat → Int32) (o m : Nat) (μ : Int32 → Int) : Prop :=
  (∀ j : Nat, j < m → (N (o + j)).toInt = μ (V (o + j)) ∧ 0 < μ (V (o + j))) ∧
  (∀ i j : Nat, i < m → j < m → V (o + i) = V (o + j) → i = j) ∧
  (∀ v : Int32, ¬ μ v = 0 → ∃ j : Nat, j < m ∧ V (o + j) = v)
def mj_srt (V N : Nat → Int32) (o m : Nat) : Prop := ∀ i j : Nat, i < j → j < m → mj_lea V N (o + i) (o + j)
def mj_addR (V N : Nat → Int32) (m : Nat) (v n : Int32) (V2 N2 : Nat → Int32) (m2 : Nat) : Prop :=
  (∃ k : Nat, k < m ∧ V k = v ∧ V2 = V ∧ N2 = upd N k (N k + n) ∧ m2 = m) ∨
  ((∀ k : Nat, k < m → ¬ V k = v) ∧ V2 = upd V m v ∧ N2 = upd N m n ∧ m2 = m + 1)
theorem mj_vs_congr {V N : Nat → Int32} {o m : Nat} {μ μ2 : Int32 → Int} (h : mj_vs V N o m μ) (e : ∀ v, μ v = μ2 v) : mj_vs V N o m μ2 := by
  have : μ = μ2 := funext e
  subst this
  exact h
theorem mj_vs_zero (V N : Nat → Int32) (o : Nat) : mj_vs V N o 0 (fun _ => 0) :=
  ⟨fun j h => absurd h (Nat.not_lt_zero j), fun i j h => absurd h (Nat.not_lt_zero i), fun v h => absurd rfl h⟩
theorem mj_vs_nn {V N : Nat → Int32} {o m : Nat} {μ : Int32 → Int} (h : mj_vs V N o m μ) (v : Int32) : 0 ≤ μ v := by
  by_cases h0 : μ v = 0
  · omega
  · obtain ⟨j, hj, rfl⟩ := h.2.2 v h0
    have := (h.1 j hj).2
    omega
theorem mj_vs_add {V N V2 N2 : Nat → Int32} {m m2 : Nat} {μ : Int32 → Int} {v n : Int32} (h : mj_vs V N 0 m μ) (hn : 0 < n.toInt) (hb : μ v + n.toInt ≤ 2147483647) (ha : mj_addR V N m v n V2 N2 m2) : mj_vs V2 N2 0 m2 (fun w => μ w + (if w = v then n.toInt else 0)) := by
  obtain ⟨h1, h2, h3⟩ := h
  simp only [Nat.zero_add] at h1 h2 h3
  rcases ha with ⟨k, hk, hv, e1, e2, e3⟩ | ⟨hno, e1, e2, e3⟩
  · subst e1; subst e2; subst e3
    have hk1 := h1 k hk
    rw [hv] at hk1
    have hs : (N k + n).toInt = (N k).toInt + n.toInt := ki_add rfl rfl rfl (by omega) (by omega)
    refine ⟨?_, ?_, ?_⟩
    · intro j hj
      simp only [Nat.zero_add]
      by_cases hjk : j = k
      · subst hjk
        rw [upd_at, hs, if_pos hv, hv]
        omega
      · have hne : ¬ V2 j = v := fun e => hjk (h2 j k hj hk (e.trans hv.symm))
        rw [upd_ne hjk, if_neg hne]
        have := h1 j hj
        omega
    · intro i j hi hj e
      simp only [Nat.zero_add] at e
      exact h2 i j hi hj e
    · intro w hw
      simp only [Nat.zero_add]
      by_cases hwv : w = v
      · exact ⟨k, hk, hv.trans hwv.symm⟩
      · exact h3 w (fun e => hw (by simp only [if_neg hwv]; omega))
  · subst e1; subst e2; subst e3
    have hz : μ v = 0 := by
      by_cases h0 : μ v = 0
      · exact h0
      · obtain ⟨j, hj, e⟩ := h3 v h0
        exact absurd e (hno j hj)
    refine ⟨?_, ?_, ?_⟩
    · intro j hj
      simp only [Nat.zero_add]
      by_cases hjm : j = m
      · subst hjm
        rw [upd_at, upd_at, if_pos rfl]
        omega
      · have hj2 : j < m := by omega
        rw [upd_ne hjm, upd_ne hjm, if_neg (hno j hj2)]
        have := h1 j hj2
        omega
    · intro i j hi hj e
      simp only [Nat.zero_add] at e
      by_cases him : i = m
      · by_cases hjm : j = m
        · omega
        · subst him
          rw [upd_at, upd_ne hjm] at e
          exact absurd e.symm (hno j (by omega))
      · by_cases hjm : j = m
        · subst hjm
          rw [upd_at, upd_ne him] at e
          exact absurd e (hno i (by omega))
        · rw [upd_ne him, upd_ne hjm] at e
          exact h2 i j (by omega) (by omega) e
    · intro w hw
      simp only [Nat.zero_add]
      by_cases hwv : w = v
      · exact ⟨m, by omega, by rw [upd_at]; exact hwv.symm⟩
      · obtain ⟨j, hj, e⟩ := h3 w (fun e => hw (by simp only [if_neg hwv]; omega))
        exact ⟨j, by omega, by rw [upd_ne (by omega)]; exact e⟩
def mj_pm (V N : Nat → Int32) (o : Nat) : Nat → Int32 → Int
  | 0, _ => 0
  | i + 1, v => mj_pm V N o i v + (if v = V (o + i) then (N (o + i)).toInt else 0)
theorem mj_pm_eq {V N : Nat → Int32} {o m : Nat} {μ : Int32 → Int} (h : mj_vs V N o m μ) (v : Int32) : ∀ i : Nat, i ≤ m → ((∃ j : Nat, j < i ∧ V (o + j) = v) → mj_pm V N o i v = μ v) ∧ ((¬ ∃ j : Nat, j < i ∧ V (o + j) = v) → mj_pm V N o i v = 0)
  | 0, _ => ⟨fun ⟨j, hj, _⟩ => absurd hj (Nat.not_lt_zero j), fun _ => rfl⟩
  | i + 1, hi => by
    have ih := mj_pm_eq h v i (by omega)
    by_cases hv : v = V (o + i)
    · have hno : ¬ ∃ j : Nat, j < i ∧ V (o + j) = v := fun ⟨j, hj, e⟩ => by
        have := h.2.1 j i (by omega) (by omega) (e.trans hv)
        omega
      have h0 := ih.2 hno
      refine ⟨fun _ => ?_, fun hn => absurd ⟨i, Nat.lt_succ_self i, hv.symm⟩ hn⟩
      simp only [mj_pm]
      rw [h0, if_pos hv, (h.1 i (by omega)).1, hv]
      omega
    · refine ⟨fun ⟨j, hj, e⟩ => ?_, fun hn => ?_⟩
      · have hji : j < i := by
          rcases Nat.lt_or_eq_of_le (Nat.le_of_lt_succ hj) with h9 | h9
          · exact h9
          · subst h9
            exact absurd e.symm hv
        simp only [mj_pm]
        rw [ih.1 ⟨j, hji, e⟩, if_neg hv]
        omega
      · simp only [mj_pm]
        rw [ih.2 (fun ⟨j, hj, e⟩ => hn ⟨j, by omega, e⟩), if_neg hv]
        omega
theorem mj_pm_new {V N : Nat → Int32} {o m i : Nat} {μ : Int32 → Int} (h : mj_vs V N o m μ) (hi : i < m) : mj_pm V N o i (V (o + i)) = 0 :=
  (mj_pm_eq h _ i (by omega)).2 (fun ⟨j, hj, e⟩ => by have := h.2.1 j i (by omega) hi e; omega)
theorem mj_pm_full {V N : Nat → Int32} {o m : Nat} {μ : Int32 → Int} (h : mj_vs V N o m μ) (v : Int32) : mj_pm V N o m v = μ v := by
  have hq := mj_pm_eq h v m (Nat.le_refl m)
  by_cases h0 : ∃ j : Nat, j < m ∧ V (o + j) = v
  · exact hq.1 h0
  · rw [hq.2 h0]
    by_cases h1 : μ v = 0
    · exact h1.symm
    · exact absurd (h.2.2 v h1) h0
theorem mj_step {V N gv gn gv2 gn2 : Nat → Int32} {o m i q q2 am am2 : Nat} {μ ν : Int32 → Int} {v n : Int32} (h : mj_vs V N o m μ) (hi : i < m) (hq : q = o + i) (hq2 : q2 = o + i) (ev : v = V q) (en : n = N q2) (hb : ν (V (o + i)) + μ (V (o + i)) ≤ 2147483647) (hg : mj_vs gv gn 0 am (fun w => ν w + mj_pm V N o i w)) (ha : mj_addR gv gn am v n gv2 gn2 am2) : mj_vs gv2 gn2 0 am2 (fun w => ν w + mj_pm V N o (i + 1) w) := by
  subst hq; subst hq2; subst ev; subst en
  have h1 := h.1 i hi
  have h0 := mj_pm_new h hi
  refine mj_vs_congr (mj_vs_add hg (by omega) (by simp only [h0]; omega) ha) (fun w => ?_)
  simp only [mj_pm]
  omega
theorem mj_lea_trans {V N : Nat → Int32} {i j k : Nat} (h : mj_lea V N i j) (h2 : mj_lea V N j k) : mj_lea V N i k := by
  unfold mj_lea at *
  omega
def mj_ex (f : Nat → Int32) (i k : Nat) : Nat → Int32 := upd (upd f i (f k)) k (f i)
theorem mj_ex_i {f : Nat → Int32} {i k : Nat} : mj_ex f i k i = f k := by
  unfold mj_ex
  by_cases h : i = k
  · subst h; rw [upd_at]
  · rw [upd_ne h, upd_at]
theorem mj_ex_k {f : Nat → Int32} {i k : Nat} : mj_ex f i k k = f i := by
  unfold mj_ex
  rw [upd_at]
theorem mj_ex_o {f : Nat → Int32} {i k j : Nat} (h1 : ¬ j = i) (h2 : ¬ j = k) : mj_ex f i k j = f j := by
  unfold mj_ex
  rw [upd_ne h2, upd_ne h1]
/-- where an exchange takes a place from -/
def mj_sw (i k j : Nat) : Nat := if j = i then k else if j = k then i else j
theorem mj_ex_sw (f : Nat → Int32) (i k j : Nat) : mj_ex f i k j = f (mj_sw i k j) := by
  unfold mj_sw
  by_cases h1 : j = i
  · subst h1; rw [if_pos rfl, mj_ex_i]
  · by_cases h2 : j = k
    · subst h2; rw [if_neg h1, if_pos rfl, mj_ex_k]
    · rw [if_neg h1, if_neg h2, mj_ex_o h1 h2]
theorem mj_sw_lt {i k j m : Nat} (hi : i < m) (hk : k < m) (hj : j < m) : mj_sw i k j < m := by
  unfold mj_sw
  split
  · exact hk
  · split
    · exact hi
    · exact hj
theorem mj_sw_sw (i k j : Nat) : mj_sw i k (mj_sw i k j) = j := by
  unfold mj_sw
  by_cases h1 : j = i
  · subst h1
    rw [if_pos rfl]
    by_cases h : k = j
    · rw [if_pos h, h]
    · rw [if_neg h, if_pos rfl]
  · by_cases h2 : j = k
    · subst h2
      rw [if_neg h1, if_pos rfl, if_pos rfl]
    · rw [if_neg h1, if_neg h2, if_neg h1, if_neg h2]
theorem mj_vs_ex {V N : Nat → Int32} {m i k : Nat} {μ : Int32 → Int} (hi : i < m) (hk : k < m) (h : mj_vs V N 0 m μ) : mj_vs (mj_ex V i k) (mj_ex N i k) 0 m μ := by
  obtain ⟨h1, h2, h3⟩ := h
  simp only [Nat.zero_add] at h1 h2 h3
  refine ⟨?_, ?_, ?_⟩
  · intro j hj
    simp only [Nat.zero_add, mj_ex_sw]
    exact h1 _ (mj_sw_lt hi hk hj)
  · intro a b ha hb e
    simp only [Nat.zero_add, mj_ex_sw] at e
    have := h2 _ _ (mj_sw_lt hi hk ha) (mj_sw_lt hi hk hb) e
    rw [← mj_sw_sw i k a, this, mj_sw_sw]
  · intro v hv
    obtain ⟨j, hj, e⟩ := h3 v hv
    refine ⟨mj_sw i k j, mj_sw_lt hi hk hj, ?_⟩
    simp only [Nat.zero_add, mj_ex_sw, mj_sw_sw]
    exact e
/-- the sort by exchanges: all before i are ahead of all behind them, i is ahead of all up to k -/
def mj_so (V N : Nat → Int32) (m i k : Nat) : Prop := (∀ x y : Nat, x < i → x < y → y < m → mj_lea V N x y) ∧ (∀ y : Nat, i < y → y < k → mj_lea V N i y)
theorem mj_so_next {V N : Nat → Int32} {m i k : Nat} (h : mj_so V N m i k) (hk : m ≤ k) : mj_so V N m (i + 1) (i + 2) := by
  refine ⟨fun x y hx hxy hy => ?_, fun y h1 h2 => by omega⟩
  rcases Nat.lt_or_eq_of_le (Nat.le_of_lt_succ hx) with h9 | h9
  · exact h.1 x y h9 hxy hy
  · subst h9
    exact h.2 y hxy (by omega)
theorem mj_so_keep {V N : Nat → Int32} {m i k : Nat} (h : mj_so V N m i k) (hl : mj_lea V N i k) : mj_so V N m i (k + 1) := by
  refine ⟨h.1, fun y h1 h2 => ?_⟩
  rcases Nat.lt_or_eq_of_le (Nat.le_of_lt_succ h2) with h9 | h9
  · exact h.2 y h1 h9
  · subst h9; exact hl
theorem mj_so_swap {V N : Nat → Int32} {m i k : Nat} (hik : i < k) (hk : k < m) (h : mj_so V N m i k) (hl : mj_lea V N k i) : mj_so (mj_ex V i k) (mj_ex N i k) m i (k + 1) := by
  have e : ∀ x y : Nat, mj_lea (mj_ex V i k) (mj_ex N i k) x y ↔ mj_lea V N (mj_sw i k x) (mj_sw i k y) := fun x y => by
    unfold mj_lea
    simp only [mj_ex_sw]
  have si : mj_sw i k i = k := by unfold mj_sw; rw [if_pos rfl]
  have sk : mj_sw i k k = i := by unfold mj_sw; rw [if_neg (by omega), if_pos rfl]
  have so : ∀ y : Nat, ¬ y = i → ¬ y = k → mj_sw i k y = y := fun y h1 h2 => by unfold mj_sw; rw [if_neg h1, if_neg h2]
  refine ⟨fun x y hx hxy hy => (e x y).mpr ?_, fun y h1 h2 => (e i y).mpr ?_⟩
  · rw [so x (by omega) (by omega)]
    by_cases hyi : y = i
    · subst hyi; rw [si]; exact h.1 x k hx (by omega) hk
    · by_cases hyk : y = k
      · subst hyk; rw [sk]; exact h.1 x i hx hx (by omega)
      · rw [so y hyi hyk]; exact h.1 x y hx hxy hy
  · rw [si]
    by_cases hyk : y = k
    · subst hyk; rw [sk]; exact hl
    · rw [so y (by omega) hyk]; exact mj_lea_trans hl (h.2 y h1 (by omega))
theorem mj_so_end {V N : Nat → Int32} {m i k : Nat} (h : mj_so V N m i k) (hi : m ≤ i) : mj_srt V N 0 m := by
  intro x y hxy hy
  rw [Nat.zero_add, Nat.zero_add]
  exact h.1 x y (by omega) hxy hy
/-- two summaries together, by slots K -/
def mj_tog (K : Nat) (μa μb μ : Int32 → Int) (c : Int32) : Prop := ∃ (V N : Nat → Int32) (m : Nat), mj_vs V N 0 m (fun v => μa v + μb v) ∧ mj_srt V N 0 m ∧ ((m ≤ K ∧ c.toInt = 0) ∨ (K < m ∧ c = N K)) ∧ ∀ v, μ v = if c.toInt < μa v + μb v then μa v + μb v - c.toInt else 0
def mj_wr (K : Nat) (V N : Nat → Int32) (c : Int) (o lf k : Nat) (vv vn wv wn : Nat → Int32) : Prop :=
  lf ≤ k ∧ lf ≤ K ∧ (∀ j : Nat, j < lf → wv (o + j) = V j ∧ (wn (o + j)).toInt = (N j).toInt - c ∧ c < (N j).toInt) ∧ (∀ j : Nat, lf ≤ j → j < k → (N j).toInt ≤ c) ∧ (∀ q : Nat, (q < o ∨ o + 6 ≤ q) → wv q = vv q ∧ wn q = vn q)
theorem mj_wr_0 (K : Nat) (V N : Nat → Int32) (c : Int) (o : Nat) (vv vn : Nat → Int32) : mj_wr K V N c o 0 0 vv vn vv vn :=
  ⟨Nat.le_refl 0, Nat.zero_le K, fun j h => absurd h (Nat.not_lt_zero j), fun j _ h => absurd h (Nat.not_lt_zero j), fun q _ => ⟨rfl, rfl⟩⟩
theorem mj_wr_skip {K : Nat} {V N vv vn wv wn : Nat → Int32} {c : Int} {o lf k k2 : Nat} (h : mj_wr K V N c o lf k vv vn wv wn) (hk : (N k).toInt ≤ c) (e : k2 = k + 1) : mj_wr K V N c o lf k2 vv vn wv wn := by
  subst e
  obtain ⟨h1, h2, h3, h4, h5⟩ := h
  refine ⟨by omega, h2, h3, fun j ha hb => ?_, h5⟩
  rcases Nat.lt_or_eq_of_le (Nat.le_of_lt_succ hb) with h9 | h9
  · exact h4 j ha h9
  · subst h9; exact hk
theorem mj_wr_put {V N vv vn wv wn : Nat → Int32} {c : Int} {o lf k k2 lf2 q q2 m K : Nat} {x y : Int32} (h : mj_wr K V N c o lf k vv vn wv wn) (hs : mj_srt V N 0 m) (hkm : k < m) (hk : c < (N k).toInt) (hK : K < m → c = (N K).toInt) (hK6 : K ≤ 6) (ex : x = V k) (ey : y.toInt = (N k).toInt - c) (e2 : k2 = k + 1) (el : lf2 = lf + 1) (eq : q = o + lf) (eq2 : q2 = o + lf) : mj_wr K V N c o lf2 k2 vv vn (upd wv q x) (upd wn q2 y) := by
  obtain ⟨h1, h2, h3, h4, h5⟩ := h
  have hlk : lf = k := by
    rcases Nat.lt_or_eq_of_le h1 with h9 | h9
    · have a := h4 lf (Nat.le_refl lf) h9
      have b := hs lf k h9 hkm
      unfold mj_lea at b
      simp only [Nat.zero_add] at b
      omega
    · exact h9
  have hk6 : k < K := by
    rcases Nat.lt_or_ge k K with h9 | h9
    · omega
    · rcases Nat.lt_or_ge K m with h8 | h8
      · have a := hK h8
        rcases Nat.lt_or_eq_of_le h9 with h7 | h7
        · have b := hs K k h7 hkm
          unfold mj_lea at b
          simp only [Nat.zero_add] at b
          omega
        · subst h7; omega
      · omega
  subst hlk; subst e2; subst el; subst eq; subst eq2; subst ex
  refine ⟨Nat.le_refl _, by omega, fun j hj => ?_, fun j ha hb => by omega, fun q hq => ?_⟩
  · by_cases hjl : j = lf
    · subst hjl
      rw [upd_at, upd_at]
      exact ⟨rfl, ey, hk⟩
    · rw [upd_ne (by omega), upd_ne (by omega)]
      exact h3 j (by omega)
  · rw [upd_ne (by omega), upd_ne (by omega)]
    exact h5 q hq
theorem mj_wr_end {K : Nat} {V N vv vn wv wn : Nat → Int32} {c : Int} {o lf k m : Nat} {μ : Int32 → Int} (h : mj_wr K V N c o lf k vv vn wv wn) (hk : k = m) (hv : mj_vs V N 0 m μ) (hs : mj_srt V N 0 m) (hc : 0 ≤ c) : mj_vs wv wn o lf (fun v => if c < μ v then μ v - c else 0) ∧ mj_srt wv wn o lf := by
  subst hk
  obtain ⟨h1, h2, h3, h4, h5⟩ := h
  obtain ⟨a1, a2, a3⟩ := hv
  simp only [Nat.zero_add] at a1 a2 a3
  refine ⟨⟨?_, ?_, ?_⟩, ?_⟩
  · intro j hj
    have x := h3 j hj
    have y := a1 j (by omega)
    dsimp only
    rw [x.1, if_pos (by omega)]
    omega
  · intro i j hi hj e
    rw [(h3 i hi).1, (h3 j hj).1] at e
    exact a2 i j (by omega) (by omega) e
  · intro v hv
    dsimp only at hv
    by_cases hcv : c < μ v
    · obtain ⟨j, hj, e⟩ := a3 v (by omega)
      have y := a1 j hj
      rw [e] at y
      have hjl : j < lf := by
        rcases Nat.lt_or_ge j lf with h9 | h9
        · exact h9
        · have := h4 j h9 hj
          omega
      exact ⟨j, hjl, by rw [(h3 j hjl).1]; exact e⟩
    · exact absurd (if_neg hcv) hv
  · intro i j hij hj
    have x := h3 i (by omega)
    have y := h3 j hj
    have z := hs i j hij (by omega)
    unfold mj_lea at z ⊢
    simp only [Nat.zero_add] at z
    rw [x.1, y.1]
    omega

def mj_z : Int32 → Int := fun _ => 0
theorem mj_vs_start {V N V2 N2 : Nat → Int32} {o m i : Nat} (hm : m = 0) (hi : i = 0) : mj_vs V N 0 m (fun w => mj_z w + mj_pm V2 N2 o i w) := by
  subst hm; subst hi
  exact mj_vs_congr (mj_vs_zero V N 0) (fun w => rfl)
theorem mj_next {V N V2 N2 gv gn : Nat → Int32} {o m o2 i j am : Nat} {μ : Int32 → Int} (h : mj_vs gv gn 0 am (fun w => mj_z w + mj_pm V N o i w)) (va : mj_vs V N o m μ) (e : i = m) (e2 : j = 0) : mj_vs gv gn 0 am (fun w => μ w + mj_pm V2 N2 o2 j w) := by
  subst e; subst e2
  refine mj_vs_congr h (fun w => ?_)
  rw [mj_pm_full va]
  show (0 : Int) + μ w = μ w + 0
  omega
theorem mj_done {V N gv gn : Nat → Int32} {o m i am : Nat} {μ ν : Int32 → Int} (h : mj_vs gv gn 0 am (fun w => ν w + mj_pm V N o i w)) (vb : mj_vs V N o m μ) (e : i = m) : mj_vs gv gn 0 am (fun w => ν w + μ w) := by
  subst e
  exact mj_vs_congr h (fun w => by rw [mj_pm_full vb])
theorem mj_hb1 {μa μb : Int32 → Int} (bd : ∀ v : Int32, μa v + μb v ≤ 1000000) (hn : ∀ v : Int32, 0 ≤ μb v) (v : Int32) : mj_z v + μa v ≤ 2147483647 := by
  have h1 := bd v
  have h2 := hn v
  show (0 : Int) + μa v ≤ 2147483647
  omega
theorem mj_hb2 {μa μb : Int32 → Int} (bd : ∀ v : Int32, μa v + μb v ≤ 1000000) (v : Int32) : μa v + μb v ≤ 2147483647 := by
  have h1 := bd v
  omega
theorem mj_bd {V N : Nat → Int32} {m : Nat} {μ : Int32 → Int} {B : Int} (h : mj_vs V N 0 m μ) (hb : ∀ v : Int32, μ v ≤ B) (j : Nat) (hj : j < m) : 0 < (N j).toInt ∧ (N j).toInt ≤ B := by
  have h1 := h.1 j hj
  simp only [Nat.zero_add] at h1
  have := hb (V j)
  omega
theorem mj_so_0 (V N : Nat → Int32) {m i k : Nat} (hi : i = 0) (hk : k ≤ 1) : mj_so V N m i k :=
  ⟨fun x y hx => absurd hx (by omega), fun y h1 h2 => absurd h1 (by omega)⟩
theorem mj_tog_nn {K : Nat} {μa μb μ : Int32 → Int} {c : Int32} (h : mj_tog K μa μb μ c) : 0 ≤ c.toInt := by
  obtain ⟨V, N, m, hv, hs, hc, -⟩ := h
  rcases hc with ⟨-, e⟩ | ⟨hk, e⟩
  · omega
  · have := hv.1 K hk
    simp only [Nat.zero_add] at this
    rw [e]
    omega
theorem mj_tog_le {K : Nat} {μa μb μ : Int32 → Int} {c : Int32} (h : mj_tog K μa μb μ c) (ha : ∀ v, 0 ≤ μa v) (hb : ∀ v, 0 ≤ μb v) (v : Int32) : 0 ≤ μ v ∧ μ v ≤ μa v + μb v := by
  have hc := mj_tog_nn h
  obtain ⟨V, N, m, -, -, -, e⟩ := h
  have h1 := ha v
  have h2 := hb v
  rw [e v]
  split <;> omega
theorem mj_vs_seg {V N V2 N2 : Nat → Int32} {o m : Nat} {μ : Int32 → Int} (h : mj_vs V N o m μ) (e : ∀ j : Nat, j < m → V2 (o + j) = V (o + j) ∧ N2 (o + j) = N (o + j)) : mj_vs V2 N2 o m μ := by
  obtain ⟨h1, h2, h3⟩ := h
  refine ⟨fun j hj => ?_, fun i j hi hj q => ?_, fun v hv => ?_⟩
  · rw [(e j hj).1, (e j hj).2]; exact h1 j hj
  · rw [(e i hi).1, (e j hj).1] at q; exact h2 i j hi hj q
  · obtain ⟨j, hj, q⟩ := h3 v hv
    exact ⟨j, hj, by rw [(e j hj).1]; exact q⟩
theorem mj_srt_seg {V N V2 N2 : Nat → Int32} {o m : Nat} (h : mj_srt V N o m) (e : ∀ j : Nat, j < m → V2 (o + j) = V (o + j) ∧ N2 (o + j) = N (o + j)) : mj_srt V2 N2 o m := by
  intro i j hij hj
  have := h i j hij hj
  unfold mj_lea at this ⊢
  rw [(e i (by omega)).1, (e i (by omega)).2, (e j hj).1, (e j hj).2]
  exact this

def mj_cp (vv vn wv wn : Nat → Int32) (a b k : Nat) : Prop := (∀ j : Nat, j < k → wv (6 * b + j) = vv (6 * a + j) ∧ wn (6 * b + j) = vn (6 * a + j)) ∧ (∀ q : Nat, (q < 6 * b ∨ 6 * b + k ≤ q) → wv q = vv q ∧ wn q = vn q)
theorem mj_cp_0 (vv vn : Nat → Int32) (a b : Nat) {k : Nat} (hk : k = 0) : mj_cp vv vn vv vn a b k := ⟨fun j h => absurd h (by omega), fun q _ => ⟨rfl, rfl⟩⟩
theorem mj_cp_step {vv vn wv wn : Nat → Int32} {a b k k2 q1 q2 q3 q4 : Nat} {x y : Int32} (h : mj_cp vv vn wv wn a b k) (hk : k < 6) (e1 : q1 = 6 * b + k) (e2 : q2 = 6 * a + k) (e3 : q3 = 6 * b + k) (e4 : q4 = 6 * a + k) (ex : x = wv q2) (ey : y = wn q4) (ek : k2 = k + 1) : mj_cp vv vn (upd wv q1 x) (upd wn q3 y) a b k2 := by
  subst e1; subst e2; subst e3; subst e4; subst ex; subst ey; subst ek
  have r := h.2 (6 * a + k) (by omega)
  refine ⟨fun j hj => ?_, fun q hq => ?_⟩
  · by_cases e : j = k
    · subst e
      rw [upd_at, upd_at]
      exact r
    · rw [upd_ne (by omega), upd_ne (by omega)]
      exact h.1 j (by omega)
  · rw [upd_ne (by omega), upd_ne (by omega)]
    exact h.2 q (by omega)
/-! the parts of a range: how many of the nodes before k are, where the next one begins -/
def mj_pb (nl nr : Nat → Int32) (l r : Int) : Nat → Int
  | 0 => l
  | k + 1 => if (nl k).toInt = mj_pb nl nr l r k ∧ (nr k).toInt ≤ r then (nr k).toInt else mj_pb nl nr l r k
def mj_isp (nl nr : Nat → Int32) (l r : Int) (k : Nat) : Prop := (nl k).toInt = mj_pb nl nr l r k ∧ (nr k).toInt ≤ r
def mj_pq (nl nr : Nat → Int32) (l r : Int) : Nat → Nat
  | 0 => 0
  | k + 1 => mj_pq nl nr l r k + (if (nl k).toInt = mj_pb nl nr l r k ∧ (nr k).toInt ≤ r then 1 else 0)
/-- the first of these lie in gp -/
def mj_pa (nl nr : Nat → Int32) (l r : Int) (gp : Nat → Int32) (k : Nat) : Prop := ∀ j : Nat, j < k → mj_isp nl nr l r j → (gp (mj_pq nl nr l r j)).toInt = (j : Int)
theorem mj_pq_le (nl nr : Nat → Int32) (l r : Int) : ∀ k : Nat, mj_pq nl nr l r k ≤ k
  | 0 => Nat.le_refl 0
  | k + 1 => by
    have := mj_pq_le nl nr l r k
    simp only [mj_pq]
    split <;> omega
theorem mj_pq_mono (nl nr : Nat → Int32) (l r : Int) (a : Nat) : ∀ b : Nat, a ≤ b → mj_pq nl nr l r a ≤ mj_pq nl nr l r b
  | 0, h => by
    obtain rfl : a = 0 := by omega
    exact Nat.le_refl _
  | b + 1, h => by
    rcases Nat.lt_or_eq_of_le h with h9 | h9
    · have := mj_pq_mono nl nr l r a b (by omega)
      simp only [mj_pq]
      omega
    · subst h9; exact Nat.le_refl _
theorem mj_pa_0 (nl nr : Nat → Int32) (l r : Int) (gp : Nat → Int32) {k : Nat} (hk : k = 0) : mj_pa nl nr l r gp k := fun j h => absurd h (by omega)
theorem mj_pa_skip {nl nr gp : Nat → Int32} {l r : Int} {k k2 : Nat} (h : mj_pa nl nr l r gp k) (hn : ¬ mj_isp nl nr l r k) (e : k2 = k + 1) : mj_pa nl nr l r gp k2 ∧ mj_pb nl nr l r k2 = mj_pb nl nr l r k ∧ mj_pq nl nr l r k2 = mj_pq nl nr l r k := by
  subst e
  refine ⟨fun j hj hp => ?_, ?_, ?_⟩
  · rcases Nat.lt_or_eq_of_le (Nat.le_of_lt_succ hj) with h9 | h9
    · exact h j h9 hp
    · subst h9; exact absurd hp hn
  · simp only [mj_pb]; exact if_neg hn
  · simp only [mj_pq]; rw [if_neg (show ¬ ((nl k).toInt = mj_pb nl nr l r k ∧ (nr k).toInt ≤ r) from hn)]; omega
theorem mj_pa_put {nl nr gp : Nat → Int32} {l r : Int} {k k2 q : Nat} {x : Int32} (h : mj_pa nl nr l r gp k) (hp : mj_isp nl nr l r k) (e : k2 = k + 1) (eq : q = mj_pq nl nr l r k) (ex : x.toInt = (k : Int)) : mj_pa nl nr l r (upd gp q x) k2 ∧ mj_pb nl nr l r k2 = (nr k).toInt ∧ mj_pq nl nr l r k2 = mj_pq nl nr l r k + 1 := by
  subst e; subst eq
  refine ⟨fun j hj hpj => ?_, ?_, ?_⟩
  · rcases Nat.lt_or_eq_of_le (Nat.le_of_lt_succ hj) with h9 | h9
    · have hlt : mj_pq nl nr l r j < mj_pq nl nr l r k := by
        have := mj_pq_mono nl nr l r (j + 1) k (by omega)
        have h2 : mj_pq nl nr l r (j + 1) = mj_pq nl nr l r j + 1 := by
          simp only [mj_pq]; rw [if_pos (show (nl j).toInt = mj_pb nl nr l r j ∧ (nr j).toInt ≤ r from hpj)]
        omega
      rw [upd_ne (by omega)]
      exact h j h9 hpj
    · subst h9
      rw [upd_at]; exact ex
  · simp only [mj_pb]; exact if_pos hp
  · simp only [mj_pq]; rw [if_pos (show (nl k).toInt = mj_pb nl nr l r k ∧ (nr k).toInt ≤ r from hp)]


