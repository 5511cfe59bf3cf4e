/-! the class's votes -/
theorem mj_lea_sw {V N : Nat → Int32} {i k x y : Nat} : mj_lea (mj_ex V i k) (mj_ex N i k) x y ↔ mj_lea V N (mj_sw i k x) (mj_sw i k y) := by
  unfold mj_lea
  simp only [mj_ex_sw]
/-- in order up to i but for j, which is ahead of all behind it -/
def mj_in (V N : Nat → Int32) (i j : Nat) : Prop := (∀ x y : Nat, x < y → y ≤ i → ¬ x = j → ¬ y = j → mj_lea V N x y) ∧ (∀ y : Nat, j < y → y ≤ i → mj_lea V N j y)
theorem mj_in_new {V N : Nat → Int32} {i j : Nat} (h : mj_srt V N 0 i) (e : j = i) : mj_in V N i j := by
  subst e
  refine ⟨fun x y h1 h2 h3 h4 => ?_, fun y h1 h2 => by omega⟩
  have := h x y h1 (by omega)
  rw [Nat.zero_add, Nat.zero_add] at this
  exact this
theorem mj_in_swap {V N : Nat → Int32} {i j k : Nat} (h : mj_in V N i j) (ek : j = k + 1) (hj : j ≤ i) (hl : mj_lea V N j k) : mj_in (mj_ex V j k) (mj_ex N j k) i k := by
  subst ek
  have sj : mj_sw (k + 1) k (k + 1) = k := by unfold mj_sw; rw [if_pos rfl]
  have sk : mj_sw (k + 1) k k = k + 1 := by unfold mj_sw; rw [if_neg (by omega), if_pos rfl]
  have so : ∀ y : Nat, ¬ y = k + 1 → ¬ y = k → mj_sw (k + 1) k y = y := fun y h1 h2 => by unfold mj_sw; rw [if_neg h1, if_neg h2]
  refine ⟨fun x y h1 h2 h3 h4 => mj_lea_sw.mpr ?_, fun y h1 h2 => mj_lea_sw.mpr ?_⟩
  · by_cases hx : x = k + 1
    · subst hx
      rw [sj, so y (by omega) (by omega)]
      exact h.1 k y (by omega) h2 (by omega) (by omega)
    · by_cases hy : y = k + 1
      · subst hy
        rw [sj, so x (by omega) (by omega)]
        exact h.1 x k (by omega) (by omega) (by omega) (by omega)
      · rw [so x hx h3, so y hy h4]
        exact h.1 x y h1 h2 hx hy
  · rw [sk]
    by_cases hy : y = k + 1
    · subst hy; rw [sj]; exact hl
    · rw [so y hy (by omega)]
      exact h.2 y (by omega) h2
theorem mj_in_end {V N : Nat → Int32} {i j i2 : Nat} (h : mj_in V N i j) (hj : j ≤ i) (hl : j = 0 ∨ mj_lea V N (j - 1) j) (e : i2 = i + 1) : mj_srt V N 0 i2 := by
  subst e
  intro x y hxy hy
  rw [Nat.zero_add, Nat.zero_add]
  by_cases hx : x = j
  · subst hx; exact h.2 y hxy (by omega)
  · by_cases hyj : y = j
    · subst hyj
      rcases hl with hl | hl
      · omega
      · by_cases hx1 : x = y - 1
        · rw [hx1]; exact hl
        · exact mj_lea_trans (h.1 x (y - 1) (by omega) (by omega) hx (by omega)) hl
    · exact h.1 x y hxy (by omega) hx hyj
theorem mj_srt_1 (V N : Nat → Int32) {m : Nat} (h : m ≤ 1) : mj_srt V N 0 m := fun i j hij hj => by omega
/-- cancelled up to k: the first lf are left -/
def mj_wc (K : Nat) (N : Nat → Int32) (c : Int) (lf k : Nat) (wn : Nat → Int32) : Prop := lf ≤ k ∧ lf ≤ K ∧ (∀ j : Nat, j < k → (wn j).toInt = (N j).toInt - c) ∧ (∀ j : Nat, j < lf → c < (N j).toInt) ∧ (∀ j : Nat, lf ≤ j → j < k → (N j).toInt ≤ c) ∧ (∀ j : Nat, k ≤ j → wn j = N j)
theorem mj_wc_0 (K : Nat) (N : Nat → Int32) (c : Int) {lf k : Nat} (h1 : lf = 0) (h2 : k = 0) : mj_wc K N c lf k N := by
  subst h1; subst h2
  exact ⟨Nat.le_refl 0, Nat.zero_le K, fun j h => absurd h (Nat.not_lt_zero j), fun j h => absurd h (Nat.not_lt_zero j), fun j _ h => absurd h (Nat.not_lt_zero j), fun j _ => rfl⟩
theorem mj_wc_step {K : Nat} {V N wn : Nat → Int32} {c : Int} {lf k k2 lf2 m : Nat} {x : Int32} (h : mj_wc K N c lf k wn) (hs : mj_srt V N 0 m) (hkm : k < m) (ex : x.toInt = (N k).toInt - c) (hK : K < m → c = (N K).toInt) (e2 : k2 = k + 1) (hl : (c < (N k).toInt ∧ lf2 = lf + 1) ∨ ((N k).toInt ≤ c ∧ lf2 = lf)) : mj_wc K N c lf2 k2 (upd wn k x) := by
  obtain ⟨h1, h2, h3, h4, h5, h6⟩ := h
  subst e2
  have w1 : ∀ j : Nat, j < k + 1 → (upd wn k x j).toInt = (N j).toInt - c := fun j hj => by
    by_cases e : j = k
    · subst e; rw [upd_at]; exact ex
    · rw [upd_ne e]; exact h3 j (by omega)
  have w2 : ∀ j : Nat, k + 1 ≤ j → upd wn k x j = N j := fun j hj => by rw [upd_ne (by omega)]; exact h6 j (by omega)
  rcases hl with ⟨hc, rfl⟩ | ⟨hc, rfl⟩
  · have hlk : lf = k := by
      rcases Nat.lt_or_eq_of_le h1 with h9 | h9
      · have a := h5 lf (Nat.le_refl lf) h9
        have b := hs lf k h9 hkm
        unfold mj_lea at b
        simp only [Nat.zero_add] at b
        omega
      · exact h9
    have hkK : k < K := by
      rcases Nat.lt_or_ge k K with h9 | h9
      · exact h9
      · rcases Nat.lt_or_ge K m with h8 | h8
        · have a := hK h8
          rcases Nat.lt_or_eq_of_le h9 with h7 | h7
          · have b := hs K k h7 hkm
            unfold mj_lea at b
            simp only [Nat.zero_add] at b
            omega
          · subst h7; omega
        · omega
    subst hlk
    refine ⟨Nat.le_refl _, hkK, w1, fun j hj => ?_, fun j ha hb => by omega, w2⟩
    rcases Nat.lt_or_eq_of_le (Nat.le_of_lt_succ hj) with h9 | h9
    · exact h4 j h9
    · subst h9; exact hc
  · refine ⟨by omega, h2, w1, h4, fun j ha hb => ?_, w2⟩
    rcases Nat.lt_or_eq_of_le (Nat.le_of_lt_succ hb) with h9 | h9
    · exact h5 j ha h9
    · subst h9; exact hc
theorem mj_wc_end {K : Nat} {V N wn : Nat → Int32} {c : Int} {lf k m : Nat} {μ : Int32 → Int} (h : mj_wc K N c lf k wn) (hk : k = m) (hv : mj_vs V N 0 m μ) (hs : mj_srt V N 0 m) (hc : 0 ≤ c) : mj_vs V wn 0 lf (fun v => if c < μ v then μ v - c else 0) ∧ mj_srt V wn 0 lf := by
  obtain ⟨h1, h2, h3, h4, h5, h6⟩ := h
  refine mj_wr_end (K := K) (vv := V) (vn := wn) ⟨h1, h2, fun j hj => ?_, h5, fun q _ => ⟨rfl, rfl⟩⟩ hk hv hs hc
  rw [Nat.zero_add]
  exact ⟨rfl, h3 j (by omega), h4 j hj⟩
/-- one summary cancelled by slots K -/
def mj_can (K : Nat) (ν μ : Int32 → Int) (c : Int32) : Prop := ∃ (V N : Nat → Int32) (m : Nat), mj_vs V N 0 m ν ∧ mj_srt V N 0 m ∧ ((m ≤ K ∧ c.toInt = 0) ∨ (K < m ∧ c = N K)) ∧ ∀ v, μ v = if c.toInt < ν v then ν v - c.toInt else 0
theorem mj_can_tog {K : Nat} {ν μa μb μ : Int32 → Int} {c : Int32} (h : mj_can K ν μ c) (e : ∀ v, ν v = μa v + μb v) : mj_tog K μa μb μ c := by
  obtain ⟨V, N, m, h1, h2, h3, h4⟩ := h
  exact ⟨V, N, m, mj_vs_congr h1 e, h2, h3, fun v => by rw [h4 v, e v]⟩
/-! uniqueness -/
theorem mj_vs_uni {V N V2 N2 : Nat → Int32} {o o2 m m2 : Nat} {μ : Int32 → Int} (h : mj_vs V N o m μ) (hs : mj_srt V N o m) (h2 : mj_vs V2 N2 o2 m2 μ) (hs2 : mj_srt V2 N2 o2 m2) : ∀ j : Nat, j < m → j < m2 ∧ V (o + j) = V2 (o2 + j) := by
  intro j
  induction j using Nat.strongRecOn with
  | _ j ih =>
    intro hj
    have hp := h.1 j hj
    obtain ⟨i, hi, ei⟩ := h2.2.2 (V (o + j)) (by omega)
    have hij : j ≤ i := by
      rcases Nat.lt_or_ge i j with h9 | h9
      · have := (ih i h9 (by omega)).2
        have := h.2.1 i j (by omega) hj (this.trans ei)
        omega
      · exact h9
    rcases Nat.lt_or_eq_of_le hij with h9 | h9
    · exfalso
      have hj2 : j < m2 := by omega
      have hp2 := h2.1 j hj2
      obtain ⟨k, hk, ek⟩ := h.2.2 (V2 (o2 + j)) (by omega)
      have hjk : j < k := by
        rcases Nat.lt_trichotomy k j with h8 | h8 | h8
        · have := (ih k h8 hk).2
          have := h2.2.1 k j (by omega) hj2 (this.symm.trans ek)
          omega
        · subst h8
          have := h2.2.1 k i (by omega) hi (ek.symm.trans ei.symm)
          omega
        · exact h8
      have a := hs j k hjk hk
      have b := hs2 j i h9 hi
      have pk := h.1 k hk
      have pi := h2.1 i hi
      unfold mj_lea at a b
      rw [ek] at a pk
      rw [ei] at b pi
      rcases a with a | ⟨a1, a2⟩
      · rcases b with b | ⟨b1, b2⟩
        · omega
        · omega
      · rcases b with b | ⟨b1, b2⟩
        · omega
        · have e9 : V (o + j) = V2 (o2 + j) := Int32.toInt_inj.mp (by omega)
          have := h2.2.1 j i hj2 hi (e9.symm.trans ei.symm)
          omega
    · subst h9
      exact ⟨hi, ei.symm⟩
theorem mj_vs_size {V N V2 N2 : Nat → Int32} {o o2 m m2 : Nat} {μ : Int32 → Int} (h : mj_vs V N o m μ) (hs : mj_srt V N o m) (h2 : mj_vs V2 N2 o2 m2 μ) (hs2 : mj_srt V2 N2 o2 m2) : m = m2 ∧ ∀ j : Nat, j < m → V (o + j) = V2 (o2 + j) ∧ N (o + j) = N2 (o2 + j) := by
  have a := mj_vs_uni h hs h2 hs2
  have b := mj_vs_uni h2 hs2 h hs
  have e : m = m2 := by
    rcases Nat.lt_trichotomy m m2 with h9 | h9 | h9
    · have := (b m h9).1; omega
    · exact h9
    · have := (a m2 h9).1; omega
  refine ⟨e, fun j hj => ?_⟩
  have x := a j hj
  refine ⟨x.2, Int32.toInt_inj.mp ?_⟩
  rw [(h.1 j hj).1, (h2.1 j x.1).1, x.2]
theorem mj_tog_uni {K : Nat} {μa μb μ μ2 : Int32 → Int} {c c2 : Int32} (h : mj_tog K μa μb μ c) (h2 : mj_tog K μa μb μ2 c2) : μ = μ2 ∧ c = c2 := by
  obtain ⟨V, N, m, a1, a2, a3, a4⟩ := h
  obtain ⟨V2, N2, m2, b1, b2, b3, b4⟩ := h2
  obtain ⟨e, q⟩ := mj_vs_size a1 a2 b1 b2
  have ec : c = c2 := by
    rcases a3 with ⟨x, y⟩ | ⟨x, y⟩ <;> rcases b3 with ⟨z, w⟩ | ⟨z, w⟩
    · exact Int32.toInt_inj.mp (by omega)
    · omega
    · omega
    · have := (q K x).2
      rw [Nat.zero_add] at this
      rw [y, w, this]
  subst ec
  exact ⟨funext fun v => by rw [a4 v, b4 v], rfl⟩
theorem mj_T_uni {K : Nat} {f nl nr fm fl fe vv vn nl2 nr2 fm2 fl2 fe2 vv2 vn2 : Nat → Int32} : ∀ (d d2 a a2 l r : Nat) (μ μ2 : Int32 → Int) (L L2 c c2 : Int32), mj_T K f nl nr fm fl fe vv vn d a l r μ L c → mj_T K f nl2 nr2 fm2 fl2 fe2 vv2 vn2 d2 a2 l r μ2 L2 c2 → μ = μ2 ∧ L = L2 ∧ c = c2
  | 0, d2, a, a2, l, r, μ, μ2, L, L2, c, c2, h, h2 => by
    obtain ⟨h1, e1, e2, e3, -⟩ := h
    cases d2 with
    | zero =>
      obtain ⟨-, g1, g2, g3, -⟩ := h2
      exact ⟨e1.trans g1.symm, e2.trans g2.symm, e3.trans g3.symm⟩
    | succ d2 =>
      rcases h2 with ⟨-, g1, g2, g3, -⟩ | ⟨g, -⟩
      · exact ⟨e1.trans g1.symm, e2.trans g2.symm, e3.trans g3.symm⟩
      · omega
  | d + 1, 0, a, a2, l, r, μ, μ2, L, L2, c, c2, h, h2 => by
    obtain ⟨h1, g1, g2, g3, -⟩ := h2
    rcases h with ⟨-, e1, e2, e3, -⟩ | ⟨g, -⟩
    · exact ⟨e1.trans g1.symm, e2.trans g2.symm, e3.trans g3.symm⟩
    · omega
  | d + 1, d2 + 1, a, a2, l, r, μ, μ2, L, L2, c, c2, h, h2 => by
    rcases h with ⟨q, e1, e2, e3, -⟩ | ⟨q, -, μa, La, ca, μb, Lb, cb, ta, tb, hg, hL⟩ <;> rcases h2 with ⟨q2, g1, g2, g3, -⟩ | ⟨q2, -, νa, Ma, da, νb, Mb, db, sa, sb, hg2, hL2⟩
    · exact ⟨e1.trans g1.symm, e2.trans g2.symm, e3.trans g3.symm⟩
    · omega
    · omega
    · obtain ⟨x1, x2, x3⟩ := mj_T_uni d d2 _ _ _ _ _ _ _ _ _ _ ta sa
      obtain ⟨y1, y2, y3⟩ := mj_T_uni d d2 _ _ _ _ _ _ _ _ _ _ tb sb
      subst x1; subst x2; subst y1; subst y2
      obtain ⟨z1, z2⟩ := mj_tog_uni hg hg2
      subst z1; subst z2
      exact ⟨rfl, hL.trans hL2.symm, rfl⟩
/-- two trees of one row: node by node the same -/
theorem mj_T_same {K : Nat} {f nl nr fm fl fe vv vn nl2 nr2 fm2 fl2 fe2 vv2 vn2 : Nat → Int32} : ∀ (d d2 a l r : Nat) (μ μ2 : Int32 → Int) (L L2 c c2 : Int32), mj_T K f nl nr fm fl fe vv vn d a l r μ L c → mj_T K f nl2 nr2 fm2 fl2 fe2 vv2 vn2 d2 a l r μ2 L2 c2 → ∀ k : Nat, a ≤ k → k < a + 2 * (r - l) - 1 → (nl k).toInt = (nl2 k).toInt ∧ (nr k).toInt = (nr2 k).toInt ∧ fm k = fm2 k ∧ fl k = fl2 k ∧ fe k = fe2 k ∧ ∀ j : Nat, j < (fm k).toNatClampNeg → vv (6 * k + j) = vv2 (6 * k + j) ∧ vn (6 * k + j) = vn2 (6 * k + j) := by
  intro d
  have own : ∀ (d d2 a l r : Nat) (μ μ2 : Int32 → Int) (L L2 c c2 : Int32), mj_T K f nl nr fm fl fe vv vn d a l r μ L c → mj_T K f nl2 nr2 fm2 fl2 fe2 vv2 vn2 d2 a l r μ2 L2 c2 → (nl a).toInt = (nl2 a).toInt ∧ (nr a).toInt = (nr2 a).toInt ∧ fm a = fm2 a ∧ fl a = fl2 a ∧ fe a = fe2 a ∧ ∀ j : Nat, j < (fm a).toNatClampNeg → vv (6 * a + j) = vv2 (6 * a + j) ∧ vn (6 * a + j) = vn2 (6 * a + j) := by
    intro d d2 a l r μ μ2 L L2 c c2 h h2
    obtain ⟨e1, e2, e3⟩ := mj_T_uni d d2 a a l r μ μ2 L L2 c c2 h h2
    subst e1; subst e2; subst e3
    obtain ⟨a1, a2, a3, a4, a4', a5, a6, a7, a8⟩ := mj_T_nd h
    obtain ⟨b1, b2, b3, b4, b4', b5, b6, b7, b8⟩ := mj_T_nd h2
    obtain ⟨q1, q2⟩ := mj_vs_size a7 a8 b7 b8
    have n1 := ki_nat (fm a) rfl a3
    have n2 := ki_nat (fm2 a) rfl b3
    exact ⟨by omega, by omega, Int32.toInt_inj.mp (by omega), a5.trans b5.symm, a6.trans b6.symm, q2⟩
  induction d with
  | zero =>
    intro d2 a l r μ μ2 L L2 c c2 h h2 k h3 h4
    have e : k = a := by have := h.1; omega
    subst e
    exact own 0 d2 k l r μ μ2 L L2 c c2 h h2
  | succ d ih =>
    intro d2 a l r μ μ2 L L2 c c2 h h2 k h3 h4
    by_cases hk : k = a
    · subst hk
      exact own (d + 1) d2 k l r μ μ2 L L2 c c2 h h2
    · cases d2 with
      | zero => have := h2.1; omega
      | succ d2 =>
        rcases h with ⟨q, -⟩ | ⟨q, -, μa, La, ca, μb, Lb, cb, ta, tb, hg, hL⟩
        · omega
        · rcases h2 with ⟨q2, -⟩ | ⟨q2, -, νa, Ma, da, νb, Mb, db, sa, sb, hg2, hL2⟩
          · omega
          · rcases Nat.lt_or_ge k (a + 2 * ((l + r) / 2 - l)) with h9 | h9
            · exact ih d2 _ _ _ _ _ _ _ _ _ ta sa k (by omega) (by omega)
            · exact ih d2 _ _ _ _ _ _ _ _ _ tb sb k (by omega) (by omega)
/-! the class's tree -/
def mj_ok (K : Nat) (f ff ft fs fo fe uv un : Nat → Int32) (k : Nat) : Prop := ∃ (d : Nat) (μ : Int32 → Int) (L c : Int32), mj_T K f ff ft fs fo fe uv un d k (ff k).toNatClampNeg (ft k).toNatClampNeg μ L c
def mj_mid (ff ft : Nat → Int32) (k : Nat) : Nat := ((ff k).toNatClampNeg + (ft k).toNatClampNeg) / 2
def mj_ch (K : Nat) (f ff ft fs fo fe uv un : Nat → Int32) (k : Nat) : Prop := (ft k).toInt - (ff k).toInt = 1 ∨ (2 ≤ (ft k).toInt - (ff k).toInt ∧ ∃ (d : Nat) (μa : Int32 → Int) (La ca : Int32) (μb : Int32 → Int) (Lb cb : Int32), mj_T K f ff ft fs fo fe uv un d (k + 1) (ff k).toNatClampNeg (mj_mid ff ft k) μa La ca ∧ mj_T K f ff ft fs fo fe uv un d (k + 2 * (mj_mid ff ft k - (ff k).toNatClampNeg)) (mj_mid ff ft k) (ft k).toNatClampNeg μb Lb cb)
def mj_jn (K : Nat) (f ff ft fs fo fe uv un : Nat → Int32) (k : Nat) (μ : Int32 → Int) (L c : Int32) : Prop := ((ft k).toInt - (ff k).toInt = 1 ∧ μ = mj_one (f (ff k).toNatClampNeg) ∧ L = 0 ∧ c = 0) ∨ (2 ≤ (ft k).toInt - (ff k).toInt ∧ ∃ (d : Nat) (μa : Int32 → Int) (La ca : Int32) (μb : Int32 → Int) (Lb cb : Int32), mj_T K f ff ft fs fo fe uv un d (k + 1) (ff k).toNatClampNeg (mj_mid ff ft k) μa La ca ∧ mj_T K f ff ft fs fo fe uv un d (k + 2 * (mj_mid ff ft k - (ff k).toNatClampNeg)) (mj_mid ff ft k) (ft k).toNatClampNeg μb Lb cb ∧ mj_tog K μa μb μ c ∧ L = La + Lb + c)
theorem mj_T_mono {K : Nat} {f nl nr fm fl fe vv vn : Nat → Int32} : ∀ (d a l r : Nat) (μ : Int32 → Int) (L c : Int32), mj_T K f nl nr fm fl fe vv vn d a l r μ L c → mj_T K f nl nr fm fl fe vv vn (d + 1) a l r μ L c
  | 0, a, l, r, μ, L, c, h => Or.inl h
  | d + 1, a, l, r, μ, L, c, h => by
    rcases h with h | ⟨h1, h2, μa, La, ca, μb, Lb, cb, ta, tb, h3, h4⟩
    · exact Or.inl h
    · exact Or.inr ⟨h1, h2, μa, La, ca, μb, Lb, cb, mj_T_mono d _ _ _ _ _ _ ta, mj_T_mono d _ _ _ _ _ _ tb, h3, h4⟩
theorem mj_T_up {K : Nat} {f nl nr fm fl fe vv vn : Nat → Int32} {a l r : Nat} {μ : Int32 → Int} {L c : Int32} {d : Nat} (h : mj_T K f nl nr fm fl fe vv vn d a l r μ L c) : ∀ n : Nat, mj_T K f nl nr fm fl fe vv vn (d + n) a l r μ L c
  | 0 => h
  | n + 1 => mj_T_mono _ _ _ _ _ _ _ (mj_T_up h n)
theorem mj_T_max {K : Nat} {f nl nr fm fl fe vv vn : Nat → Int32} {a l r : Nat} {μ : Int32 → Int} {L c : Int32} {d e : Nat} (h : mj_T K f nl nr fm fl fe vv vn d a l r μ L c) (hde : d ≤ e) : mj_T K f nl nr fm fl fe vv vn e a l r μ L c := by
  obtain ⟨n, rfl⟩ := Nat.le.dest hde
  exact mj_T_up h n
/-- the ranges below a node -/
def mj_cr (ff ft : Nat → Int32) (nd : Int) : Prop := ∀ k : Nat, (k : Int) < nd → 2 ≤ (ft k).toInt - (ff k).toInt → (ff (k + 1)).toNatClampNeg = (ff k).toNatClampNeg ∧ (ft (k + 1)).toNatClampNeg = mj_mid ff ft k ∧ (ff (k + 2 * (mj_mid ff ft k - (ff k).toNatClampNeg))).toNatClampNeg = mj_mid ff ft k ∧ (ft (k + 2 * (mj_mid ff ft k - (ff k).toNatClampNeg))).toNatClampNeg = (ft k).toNatClampNeg
theorem mj_ch_of {K : Nat} {f ff ft fs fo fe uv un : Nat → Int32} {nd n : Int} {k : Nat} (ht : treeOk ff ft nd n) (hc : mj_cr ff ft nd) (hk : (k : Int) < nd) (h : ∀ j : Nat, k < j → (j : Int) < nd → mj_ok K f ff ft fs fo fe uv un j) : mj_ch K f ff ft fs fo fe uv un k := by
  obtain ⟨a1, a2, a3, a4⟩ := ht k hk
  have n1 := ki_nat (ff k) rfl a1
  have n2 := ki_nat (ft k) rfl (by omega)
  by_cases hw : (ft k).toInt - (ff k).toInt = 1
  · exact Or.inl hw
  · obtain ⟨c1, c2, c3, c4⟩ := hc k hk (by omega)
    have hm : mj_mid ff ft k = ((ff k).toNatClampNeg + (ft k).toNatClampNeg) / 2 := rfl
    obtain ⟨d1, μa, La, ca, ta⟩ := h (k + 1) (by omega) (by omega)
    obtain ⟨d2, μb, Lb, cb, tb⟩ := h (k + 2 * (mj_mid ff ft k - (ff k).toNatClampNeg)) (by omega) (by omega)
    rw [c1, c2] at ta
    rw [c3, c4] at tb
    exact Or.inr ⟨by omega, d1 + d2, μa, La, ca, μb, Lb, cb, mj_T_max ta (by omega), mj_T_max tb (by omega)⟩
/-- a node's summary written -/
theorem mj_jn_ok {K : Nat} {f ff ft fs fo fe uv un fs2 fo2 fe2 uv2 un2 : Nat → Int32} {k : Nat} {μ : Int32 → Int} {js jl je : Int32} {jv jn : Nat → Int32} (h : mj_jn K f ff ft fs fo fe uv un k μ jl je) (h0 : 0 ≤ (ff k).toInt) (hw : (ff k).toInt < (ft k).toInt) (hv : mj_vs jv jn 0 js.toNatClampNeg μ) (hs : mj_srt jv jn 0 js.toNatClampNeg) (b0 : 0 ≤ js.toInt) (bK : js.toInt ≤ (K : Int)) (hK : K ≤ 6)
    (e1 : fs2 = upd fs k js) (e2 : fo2 = upd fo k jl) (e3 : fe2 = upd fe k je) (w1 : ∀ i : Nat, i < js.toNatClampNeg → uv2 (6 * k + i) = jv i ∧ un2 (6 * k + i) = jn i) (w2 : ∀ q : Nat, (q < 6 * k ∨ 6 * k + 6 ≤ q) → uv2 q = uv q ∧ un2 q = un q) : mj_ok K f ff ft fs2 fo2 fe2 uv2 un2 k := by
  subst e1; subst e2; subst e3
  have n1 := ki_nat (ff k) rfl h0
  have n2 := ki_nat (ft k) rfl (by omega)
  have n3 := ki_nat js rfl b0
  have nd : mj_nd K ff ft (upd fs k js) (upd fo k jl) (upd fe k je) uv2 un2 k (ff k).toNatClampNeg (ft k).toNatClampNeg μ jl je := by
    unfold mj_nd
    rw [upd_at, upd_at, upd_at]
    refine ⟨by omega, by omega, b0, by omega, bK, rfl, rfl, ?_, ?_⟩
    · refine ⟨fun j hj => ?_, fun i j hi hj q => ?_, fun v hv2 => ?_⟩
      · rw [(w1 j hj).1, (w1 j hj).2]
        have := hv.1 j hj
        rw [Nat.zero_add] at this
        exact this
      · rw [(w1 i hi).1, (w1 j hj).1] at q
        exact hv.2.1 i j hi hj (by rw [Nat.zero_add, Nat.zero_add]; exact q)
      · obtain ⟨j, hj, q⟩ := hv.2.2 v hv2
        rw [Nat.zero_add] at q
        exact ⟨j, hj, by rw [(w1 j hj).1]; exact q⟩
    · intro i j hij hj
      have := hs i j hij hj
      unfold mj_lea at this ⊢
      rw [Nat.zero_add, Nat.zero_add] at this
      rw [(w1 i (by omega)).1, (w1 i (by omega)).2, (w1 j hj).1, (w1 j hj).2]
      exact this
  have ag : ∀ a b : Nat, k < a → mj_ag a b ff ft fs fo fe uv un ff ft (upd fs k js) (upd fo k jl) (upd fe k je) uv2 un2 := fun a b hab =>
    ⟨fun q x y => by
      have : ¬ q = k := by omega
      rw [upd_ne this, upd_ne this, upd_ne this]
      exact ⟨rfl, rfl, rfl, rfl, rfl⟩, fun q x y => w2 q (by omega)⟩
  rcases h with ⟨q1, q2, q3, q4⟩ | ⟨q1, d, μa, La, ca, μb, Lb, cb, ta, tb, tg, q2⟩
  · exact ⟨0, μ, jl, je, by omega, q2, q3, q4, nd⟩
  · refine ⟨d + 1, μ, jl, je, Or.inr ⟨by omega, nd, μa, La, ca, μb, Lb, cb, ?_, ?_, tg, q2⟩⟩
    · exact mj_T_ag d _ _ _ _ _ _ _ ta (Nat.le_refl _) (ag _ _ (by omega))
    · have hm : mj_mid ff ft k = ((ff k).toNatClampNeg + (ft k).toNatClampNeg) / 2 := rfl
      exact mj_T_ag d _ _ _ _ _ _ _ tb (Nat.le_refl _) (ag _ _ (by omega))
theorem mj_ok_ag {K : Nat} {f ff ft fs fo fe uv un fs2 fo2 fe2 uv2 un2 : Nat → Int32} {k : Nat} (h : mj_ok K f ff ft fs fo fe uv un k) (ag : ∀ b : Nat, b ≤ k + 2 * ((ft k).toNatClampNeg - (ff k).toNatClampNeg) - 1 → mj_ag k b ff ft fs fo fe uv un ff ft fs2 fo2 fe2 uv2 un2) : mj_ok K f ff ft fs2 fo2 fe2 uv2 un2 k := by
  obtain ⟨d, μ, L, c, t⟩ := h
  exact ⟨d, μ, L, c, mj_T_ag d _ _ _ _ _ _ _ t (Nat.le_refl _) (ag _ (Nat.le_refl _))⟩
/-- the row changed elsewhere -/
theorem mj_T_row {K : Nat} {f f2 nl nr fm fl fe vv vn : Nat → Int32} : ∀ (d a l r : Nat) (μ : Int32 → Int) (L c : Int32), mj_T K f nl nr fm fl fe vv vn d a l r μ L c → (∀ p : Nat, l ≤ p → p < r → f2 p = f p) → mj_T K f2 nl nr fm fl fe vv vn d a l r μ L c
  | 0, a, l, r, μ, L, c, h, e => by
    obtain ⟨h1, h2, h3, h4, h5⟩ := h
    exact ⟨h1, by rw [e l (Nat.le_refl l) (by omega)]; exact h2, h3, h4, h5⟩
  | d + 1, a, l, r, μ, L, c, h, e => by
    rcases h with ⟨h1, h2, h3, h4, h5⟩ | ⟨h1, h2, μa, La, ca, μb, Lb, cb, ta, tb, h3, h4⟩
    · exact Or.inl ⟨h1, by rw [e l (Nat.le_refl l) (by omega)]; exact h2, h3, h4, h5⟩
    · exact Or.inr ⟨h1, h2, μa, La, ca, μb, Lb, cb, mj_T_row d _ _ _ _ _ _ ta (fun p a b => e p a (by omega)), mj_T_row d _ _ _ _ _ _ tb (fun p a b => e p (by omega) b), h3, h4⟩
def mj_kp (jv jn uv un wv wn : Nat → Int32) (k n : Nat) : Prop := (∀ i : Nat, i < n → wv (6 * k + i) = jv i ∧ wn (6 * k + i) = jn i) ∧ (∀ q : Nat, (q < 6 * k ∨ 6 * k + 6 ≤ q) → wv q = uv q ∧ wn q = un q)
theorem mj_kp_0 (jv jn uv un : Nat → Int32) (k : Nat) {n : Nat} (h : n = 0) : mj_kp jv jn uv un uv un k n := ⟨fun i hi => absurd hi (by omega), fun q _ => ⟨rfl, rfl⟩⟩
theorem mj_kp_step {jv jn uv un wv wn : Nat → Int32} {k n n2 q1 q2 : Nat} {x y : Int32} (h : mj_kp jv jn uv un wv wn k n) (hn : n < 6) (e1 : q1 = 6 * k + n) (e2 : q2 = 6 * k + n) (ex : x = jv n) (ey : y = jn n) (e : n2 = n + 1) : mj_kp jv jn uv un (upd wv q1 x) (upd wn q2 y) k n2 := by
  subst e1; subst e2; subst ex; subst ey; subst e
  refine ⟨fun i hi => ?_, fun q hq => ?_⟩
  · by_cases e : i = n
    · subst e
      rw [upd_at, upd_at]
      exact ⟨rfl, rfl⟩
    · rw [upd_ne (by omega), upd_ne (by omega)]
      exact h.1 i (by omega)
  · rw [upd_ne (by omega), upd_ne (by omega)]
    exact h.2 q hq
def mj_sj (fs fo uv un : Nat → Int32) (k : Nat) (js jl : Int32) (jv jn : Nat → Int32) : Prop := fs k = js ∧ fo k = jl ∧ ∀ i : Nat, i < js.toNatClampNeg → uv (6 * k + i) = jv i ∧ un (6 * k + i) = jn i
def mj_hit (ff ft : Nat → Int32) (l r : Int) (k : Nat) : Prop := (ff k).toInt < r ∧ l < (ft k).toInt
def mj_e1 (fs fo fe uv un fs2 fo2 fe2 uv2 un2 : Nat → Int32) (k : Nat) : Prop := fs2 k = fs k ∧ fo2 k = fo k ∧ fe2 k = fe k ∧ ∀ q : Nat, 6 * k ≤ q → q < 6 * k + 6 → uv2 q = uv q ∧ un2 q = un q
/-- the nodes from b on are right, those before b and those not met are as they were -/
def mj_rn (K : Nat) (f ff ft fs fo fe uv un fs2 fo2 fe2 uv2 un2 : Nat → Int32) (l r nd : Int) (b : Nat) : Prop :=
  (∀ k : Nat, b ≤ k → (k : Int) < nd → mj_ok K f ff ft fs2 fo2 fe2 uv2 un2 k) ∧ (∀ k : Nat, (k : Int) < nd → (k < b ∨ ¬ mj_hit ff ft l r k) → mj_e1 fs fo fe uv un fs2 fo2 fe2 uv2 un2 k)
theorem mj_rn_0 (K : Nat) (f ff ft fs fo fe uv un : Nat → Int32) (l r : Int) {nd : Int} {b : Nat} (h : nd ≤ (b : Int)) : mj_rn K f ff ft fs fo fe uv un fs fo fe uv un l r nd b :=
  ⟨fun k h1 h2 => absurd h1 (by omega), fun k _ _ => ⟨rfl, rfl, rfl, fun q _ _ => ⟨rfl, rfl⟩⟩⟩
theorem mj_rn_skip {K : Nat} {f ff ft fs fo fe uv un fs2 fo2 fe2 uv2 un2 : Nat → Int32} {l r nd n : Int} {b k : Nat} (h : mj_rn K f ff ft fs fo fe uv un fs2 fo2 fe2 uv2 un2 l r nd b) (ht : treeOk ff ft nd n) (hOld : ∀ k : Nat, (k : Int) < nd → ¬ mj_hit ff ft l r k → mj_ok K f ff ft fs fo fe uv un k) (hb : b = k + 1) (hk : (k : Int) < nd) (hn : ¬ mj_hit ff ft l r k) : mj_rn K f ff ft fs fo fe uv un fs2 fo2 fe2 uv2 un2 l r nd k := by
  subst hb
  refine ⟨fun j h1 h2 => ?_, fun j h1 h2 => h.2 j h1 (h2.imp Nat.lt_succ_of_lt id)⟩
  rcases Nat.lt_or_eq_of_le h1 with h9 | h9
  · exact h.1 j h9 h2
  · subst h9
    have old := hOld k hk hn
    obtain ⟨a1, a2, a3, a4⟩ := ht k hk
    have n1 := ki_nat (ff k) rfl a1
    have n2 := ki_nat (ft k) rfl (by omega)
    obtain ⟨d, μ, L, c, t⟩ := id old
    refine mj_ok_ag old (fun b2 hb2 => ?_)
    have e : ∀ j : Nat, k ≤ j → j < b2 → mj_e1 fs fo fe uv un fs2 fo2 fe2 uv2 un2 j := fun j x y => by
      obtain ⟨d2, l2, r2, μ2, L2, c2, y1, y2, y3, y4⟩ := mj_T_all d _ _ _ _ _ _ t j x (by omega)
      have nd2 := mj_T_nd y4
      have m1 := nd2.1
      have m2 := nd2.2.1
      refine h.2 j (by omega) (Or.inr (fun hh => hn ⟨?_, ?_⟩))
      · have := hh.1; omega
      · have := hh.2; omega
    refine ⟨fun j x y => ?_, fun q x y => ?_⟩
    · obtain ⟨e1, e2, e3, -⟩ := e j x y
      exact ⟨rfl, rfl, e1, e2, e3⟩
    · exact (e (q / 6) (by omega) (by omega)).2.2.2 q (by omega) (by omega)
theorem mj_rn_put {K : Nat} {f ff ft fs fo fe uv un fs2 fo2 fe2 uv2 un2 fs3 fo3 fe3 uv3 un3 : Nat → Int32} {l r nd : Int} {b k : Nat} {js jl je : Int32} (h : mj_rn K f ff ft fs fo fe uv un fs2 fo2 fe2 uv2 un2 l r nd b) (hb : b = k + 1) (hh : mj_hit ff ft l r k) (ok : mj_ok K f ff ft fs3 fo3 fe3 uv3 un3 k) (e1 : fs3 = upd fs2 k js) (e2 : fo3 = upd fo2 k jl) (e3 : fe3 = upd fe2 k je) (w2 : ∀ q : Nat, (q < 6 * k ∨ 6 * k + 6 ≤ q) → uv3 q = uv2 q ∧ un3 q = un2 q) : mj_rn K f ff ft fs fo fe uv un fs3 fo3 fe3 uv3 un3 l r nd k := by
  subst hb
  refine ⟨fun j h1 h2 => ?_, fun j h1 h2 => ?_⟩
  · rcases Nat.lt_or_eq_of_le h1 with h9 | h9
    · refine mj_ok_ag (h.1 j h9 h2) (fun b2 _ => ⟨fun q x y => ?_, fun q x y => w2 q (by omega)⟩)
      have : ¬ q = k := by omega
      rw [e1, e2, e3, upd_ne this, upd_ne this, upd_ne this]
      exact ⟨rfl, rfl, rfl, rfl, rfl⟩
    · subst h9; exact ok
  · have hne : ¬ j = k := fun e => by
      subst e
      rcases h2 with h2 | h2
      · omega
      · exact h2 hh
    obtain ⟨x1, x2, x3, x4⟩ := h.2 j h1 (h2.imp Nat.lt_succ_of_lt id)
    refine ⟨?_, ?_, ?_, fun q y1 y2 => ?_⟩
    · rw [e1, upd_ne hne]; exact x1
    · rw [e2, upd_ne hne]; exact x2
    · rw [e3, upd_ne hne]; exact x3
    · have z := w2 q (by omega)
      have z2 := x4 q y1 y2
      exact ⟨z.1.trans z2.1, z.2.trans z2.2⟩
/-! the ranges as they are laid -/
def mj_l1 (ff ft : Nat → Int32) (k : Nat) : (Nat → Int32) × (Nat → Int32) :=
  if 1 < (ft k).toInt - (ff k).toInt then (upd (upd ff (k + 1) (ff k)) (k + 2 * (((ff k).toInt + (ft k).toInt) / 2 - (ff k).toInt).toNat) (Int32.ofInt (((ff k).toInt + (ft k).toInt) / 2)), upd (upd ft (k + 1) (Int32.ofInt (((ff k).toInt + (ft k).toInt) / 2))) (k + 2 * (((ff k).toInt + (ft k).toInt) / 2 - (ff k).toInt).toNat) (ft k)) else (ff, ft)
def mj_lit (ff ft : Nat → Int32) (a : Nat) : Nat → (Nat → Int32) × (Nat → Int32)
  | 0 => (ff, ft)
  | n + 1 => mj_l1 (mj_lit ff ft a n).1 (mj_lit ff ft a n).2 (a + n)
def mj_R (ff ft : Nat → Int32) : Nat → Nat → Nat → Nat → Prop
  | 0, a, l, r => (ff a).toInt = (l : Int) ∧ (ft a).toInt = (r : Int) ∧ r = l + 1
  | d + 1, a, l, r => (ff a).toInt = (l : Int) ∧ (ft a).toInt = (r : Int) ∧ (r = l + 1 ∨ (l + 2 ≤ r ∧ mj_R ff ft d (a + 1) l ((l + r) / 2) ∧ mj_R ff ft d (a + 2 * ((l + r) / 2 - l)) ((l + r) / 2) r))
theorem mj_lit_add (ff ft : Nat → Int32) (a n : Nat) : ∀ m : Nat, mj_lit ff ft a (n + m) = mj_lit (mj_lit ff ft a n).1 (mj_lit ff ft a n).2 (a + n) m
  | 0 => rfl
  | m + 1 => by
    have ih := mj_lit_add ff ft a n m
    show mj_l1 (mj_lit ff ft a (n + m)).1 (mj_lit ff ft a (n + m)).2 (a + (n + m)) = mj_l1 _ _ (a + n + m)
    rw [ih, Nat.add_assoc]
theorem mj_R_ag {ff ft ff2 ft2 : Nat → Int32} : ∀ (d a l r : Nat), mj_R ff ft d a l r → (∀ k : Nat, a ≤ k → k < a + 2 * (r - l) - 1 → ff2 k = ff k ∧ ft2 k = ft k) → l < r → mj_R ff2 ft2 d a l r
  | 0, a, l, r, h, g, hlr => by
    obtain ⟨h1, h2, h3⟩ := h
    have e := g a (Nat.le_refl a) (by omega)
    exact ⟨by rw [e.1]; exact h1, by rw [e.2]; exact h2, h3⟩
  | d + 1, a, l, r, h, g, hlr => by
    obtain ⟨h1, h2, h3⟩ := h
    have e := g a (Nat.le_refl a) (by omega)
    refine ⟨by rw [e.1]; exact h1, by rw [e.2]; exact h2, ?_⟩
    rcases h3 with h3 | ⟨h3, h4, h5⟩
    · exact Or.inl h3
    · exact Or.inr ⟨h3, mj_R_ag d _ _ _ h4 (fun k x y => g k (by omega) (by omega)) (by omega), mj_R_ag d _ _ _ h5 (fun k x y => g k (by omega) (by omega)) (by omega)⟩
theorem ki_ofInt {x : Int} (h1 : 0 ≤ x) (h2 : x ≤ 1000) : (Int32.ofInt x).toInt = x := Int32.toInt_ofInt_of_le (by omega) (by omega)
theorem mj_lit_R : ∀ (d a l r : Nat) (ff ft : Nat → Int32), (ff a).toInt = (l : Int) → (ft a).toInt = (r : Int) → l < r → r ≤ 160 → r - l ≤ 2 ^ d → mj_R (mj_lit ff ft a (2 * (r - l) - 1)).1 (mj_lit ff ft a (2 * (r - l) - 1)).2 d a l r ∧ ∀ k : Nat, (k < a ∨ a + 2 * (r - l) - 1 ≤ k ∨ k = a) → (mj_lit ff ft a (2 * (r - l) - 1)).1 k = ff k ∧ (mj_lit ff ft a (2 * (r - l) - 1)).2 k = ft k
  | 0, a, l, r, ff, ft, h1, h2, h3, h4, h5 => by
    have e : r = l + 1 := by
      have : (2 : Nat) ^ 0 = 1 := rfl
      omega
    subst e
    have e2 : 2 * (l + 1 - l) - 1 = 0 + 1 := by omega
    rw [e2]
    have hs : mj_lit ff ft a (0 + 1) = (ff, ft) := by
      show mj_l1 ff ft (a + 0) = (ff, ft)
      unfold mj_l1
      rw [Nat.add_zero, if_neg (by omega)]
    rw [hs]
    exact ⟨⟨h1, h2, rfl⟩, fun k _ => ⟨rfl, rfl⟩⟩
  | d + 1, a, l, r, ff, ft, h1, h2, h3, h4, h5 => by
    by_cases e : r = l + 1
    · subst e
      have e2 : 2 * (l + 1 - l) - 1 = 0 + 1 := by omega
      rw [e2]
      have hs : mj_lit ff ft a (0 + 1) = (ff, ft) := by
        show mj_l1 ff ft (a + 0) = (ff, ft)
        unfold mj_l1
        rw [Nat.add_zero, if_neg (by omega)]
      rw [hs]
      exact ⟨⟨h1, h2, Or.inl rfl⟩, fun k _ => ⟨rfl, rfl⟩⟩
    · have hp : (2 : Nat) ^ (d + 1) = 2 * 2 ^ d := by rw [Nat.pow_succ, Nat.mul_comm]
      have hm : ((l : Int) + (r : Int)) / 2 = (((l + r) / 2 : Nat) : Int) := by omega
      have hrt : a + 2 * (((l : Int) + (r : Int)) / 2 - (l : Int)).toNat = a + 2 * ((l + r) / 2 - l) := by omega
      -- the first step
      have s1 : mj_lit ff ft a 1 = (upd (upd ff (a + 1) (ff a)) (a + 2 * ((l + r) / 2 - l)) (Int32.ofInt (((l + r) / 2 : Nat) : Int)), upd (upd ft (a + 1) (Int32.ofInt (((l + r) / 2 : Nat) : Int))) (a + 2 * ((l + r) / 2 - l)) (ft a)) := by
        show mj_l1 ff ft (a + 0) = _
        unfold mj_l1
        rw [Nat.add_zero, if_pos (by omega), h1, h2, hm]
        have : (a + 2 * ((((l + r) / 2 : Nat) : Int) - (l : Int)).toNat) = a + 2 * ((l + r) / 2 - l) := by omega
        rw [this]
      generalize hA : upd (upd ff (a + 1) (ff a)) (a + 2 * ((l + r) / 2 - l)) (Int32.ofInt (((l + r) / 2 : Nat) : Int)) = fA at s1
      generalize hB : upd (upd ft (a + 1) (Int32.ofInt (((l + r) / 2 : Nat) : Int))) (a + 2 * ((l + r) / 2 - l)) (ft a) = tA at s1
      have mi := ki_ofInt (x := (((l + r) / 2 : Nat) : Int)) (by omega) (by omega)
      have fA1 : (fA (a + 1)).toInt = (l : Int) := by rw [← hA, upd_ne (by omega), upd_at]; exact h1
      have tA1 : (tA (a + 1)).toInt = (((l + r) / 2 : Nat) : Int) := by rw [← hB, upd_ne (by omega), upd_at]; exact mi
      have fAr : (fA (a + 2 * ((l + r) / 2 - l))).toInt = (((l + r) / 2 : Nat) : Int) := by rw [← hA, upd_at]; exact mi
      have tAr : (tA (a + 2 * ((l + r) / 2 - l))).toInt = (r : Int) := by rw [← hB, upd_at]; exact h2
      have oth : ∀ k : Nat, ¬ k = a + 1 → ¬ k = a + 2 * ((l + r) / 2 - l) → fA k = ff k ∧ tA k = ft k := fun k x y => ⟨by rw [← hA, upd_ne y, upd_ne x], by rw [← hB, upd_ne y, upd_ne x]⟩
      -- the left one
      obtain ⟨R1, O1⟩ := mj_lit_R d (a + 1) l ((l + r) / 2) fA tA fA1 tA1 (by omega) (by omega) (by omega)
      generalize hC : mj_lit fA tA (a + 1) (2 * ((l + r) / 2 - l) - 1) = q at R1 O1
      have o1 := O1 (a + 2 * ((l + r) / 2 - l)) (by omega)
      obtain ⟨R2, O2⟩ := mj_lit_R d (a + 2 * ((l + r) / 2 - l)) ((l + r) / 2) r q.1 q.2 (by rw [o1.1]; exact fAr) (by rw [o1.2]; exact tAr) (by omega) h4 (by omega)
      have tot : mj_lit ff ft a (2 * (r - l) - 1) = mj_lit q.1 q.2 (a + 2 * ((l + r) / 2 - l)) (2 * (r - (l + r) / 2) - 1) := by
        have e3 : 2 * (r - l) - 1 = 1 + ((2 * ((l + r) / 2 - l) - 1) + (2 * (r - (l + r) / 2) - 1)) := by omega
        rw [e3, mj_lit_add, s1, mj_lit_add]
        dsimp only
        rw [hC]
        have e4 : a + 1 + (2 * ((l + r) / 2 - l) - 1) = a + 2 * ((l + r) / 2 - l) := by omega
        rw [e4]
      rw [tot]
      refine ⟨⟨?_, ?_, Or.inr ⟨by omega, ?_, R2⟩⟩, fun k hk => ?_⟩
      · rw [(O2 a (by omega)).1, (O1 a (by omega)).1, (oth a (by omega) (by omega)).1]; exact h1
      · rw [(O2 a (by omega)).2, (O1 a (by omega)).2, (oth a (by omega) (by omega)).2]; exact h2
      · exact mj_R_ag d _ _ _ R1 (fun k x y => O2 k (by omega)) (by omega)
      · have x := O2 k (by omega)
        have y := O1 k (by omega)
        have z := oth k (by omega) (by omega)
        exact ⟨x.1.trans (y.1.trans z.1), x.2.trans (y.2.trans z.2)⟩
theorem mj_R_all {ff ft : Nat → Int32} : ∀ (d a l r : Nat), mj_R ff ft d a l r → l < r → ∀ k : Nat, a ≤ k → k < a + 2 * (r - l) - 1 → ∃ e l2 r2 : Nat, mj_R ff ft e k l2 r2 ∧ l2 < r2
  | 0, a, l, r, h, hl, k, h1, h2 => by
    have e : k = a := by have := h.2.2; omega
    subst e
    exact ⟨0, l, r, h, hl⟩
  | d + 1, a, l, r, h, hl, k, h1, h2 => by
    by_cases hk : k = a
    · subst hk; exact ⟨d + 1, l, r, h, hl⟩
    · rcases h.2.2 with h3 | ⟨h3, h4, h5⟩
      · omega
      · rcases Nat.lt_or_ge k (a + 2 * ((l + r) / 2 - l)) with h9 | h9
        · exact mj_R_all d _ _ _ h4 (by omega) k (by omega) (by omega)
        · exact mj_R_all d _ _ _ h5 (by omega) k (by omega) (by omega)
theorem mj_R_cr {ff ft : Nat → Int32} {d n : Nat} {nd : Int} (h : mj_R ff ft d 0 0 n) (hn : 0 < n) (e : nd = 2 * (n : Int) - 1) : mj_cr ff ft nd := by
  intro k hk hw
  obtain ⟨e2, l2, r2, hr, hlt⟩ := mj_R_all d 0 0 n h hn k (by omega) (by omega)
  have top : ∀ (d a l r : Nat), mj_R ff ft d a l r → (ff a).toNatClampNeg = l ∧ (ft a).toNatClampNeg = r := fun d a l r h => by
    have h1 : (ff a).toInt = (l : Int) := by cases d <;> exact h.1
    have h2 : (ft a).toInt = (r : Int) := by cases d <;> exact h.2.1
    have n1 := ki_nat (ff a) rfl (by omega)
    have n2 := ki_nat (ft a) rfl (by omega)
    omega
  obtain ⟨q1, q2⟩ := top _ _ _ _ hr
  have h1 : (ff k).toInt = (l2 : Int) := by cases e2 <;> exact hr.1
  have h2 : (ft k).toInt = (r2 : Int) := by cases e2 <;> exact hr.2.1
  cases e2 with
  | zero => have := hr.2.2; omega
  | succ e2 =>
    rcases hr.2.2 with h3 | ⟨h3, h4, h5⟩
    · omega
    · have m : mj_mid ff ft k = (l2 + r2) / 2 := by unfold mj_mid; rw [q1, q2]
      rw [m, q1, q2]
      obtain ⟨a1, a2⟩ := top _ _ _ _ h4
      obtain ⟨b1, b2⟩ := top _ _ _ _ h5
      exact ⟨a1, a2, b1, b2⟩

def mj_rt (ff ft : Nat → Int32) (n : Int) : Prop := 0 < n → (ff 0).toInt = 0 ∧ (ft 0).toInt = n
/-- the class's tree is the document's -/
def mj_C (K : Nat) (f ff ft fs fo fe uv un : Nat → Int32) (nd n : Int) : Prop := 0 ≤ nd ∧ nd ≤ 319 ∧ ((n = 0 ∧ nd = 0) ∨ (0 < n ∧ nd = 2 * n - 1)) ∧ treeOk ff ft nd n ∧ mj_cr ff ft nd ∧ mj_rt ff ft n ∧ ∀ k : Nat, (k : Int) < nd → mj_ok K f ff ft fs fo fe uv un k
def laidX (old slots here : Int32) (f ff ft fs fo fe uv un : Nat → Int32) (nodes len : Int32) : Prop := old.toInt = 0 → here = slots ∧ mj_C slots.toNatClampNeg f ff ft fs fo fe uv un nodes.toInt len.toInt
/-- the class's tree and the reference's are the same -/
def mj_eqv (ff ft fs fo fe uv un nl nr fm fl fe2 vv vn : Nat → Int32) (nd : Int) : Prop := ∀ k : Nat, (k : Int) < nd → (ff k).toInt = (nl k).toInt ∧ (ft k).toInt = (nr k).toInt ∧ fs k = fm k ∧ fo k = fl k ∧ fe k = fe2 k ∧ ∀ j : Nat, j < (fs k).toNatClampNeg → uv (6 * k + j) = vv (6 * k + j) ∧ un (6 * k + j) = vn (6 * k + j)
theorem mj_C_same {K : Nat} {f ff ft fs fo fe uv un nl nr fm fl fe2 vv vn : Nat → Int32} {nd nd2 n : Int} (h : mj_C K f ff ft fs fo fe uv un nd n) (h2 : mj_L K f nl nr fm fl fe2 vv vn n nd2) : nd = nd2 ∧ mj_eqv ff ft fs fo fe uv un nl nr fm fl fe2 vv vn nd := by
  obtain ⟨a1, a2, a3, a4, a5, a6, a7⟩ := h
  rcases h2 with ⟨b1, b2⟩ | ⟨b1, b2, μ, L, c, t⟩
  · have e : nd = 0 := by omega
    exact ⟨by omega, fun k hk => absurd hk (by omega)⟩
  · refine ⟨by omega, fun k hk => ?_⟩
    obtain ⟨d, μ2, L2, c2, t2⟩ := a7 0 (by omega)
    obtain ⟨r1, r2⟩ := a6 b1
    have n1 := ki_nat (ff 0) rfl (by omega)
    have n2 := ki_nat (ft 0) rfl (by omega)
    rw [show (ff 0).toNatClampNeg = 0 by omega, show (ft 0).toNatClampNeg = n.toNat by omega] at t2
    exact mj_T_same _ _ _ _ _ _ _ _ _ _ _ t2 t k (by omega) (by omega)
/-- what is asked of the node that is a range -/
def mj_ask (ff ft g : Nat → Int32) (nd l r : Int) (x : Int32) : Prop := (∃ k : Nat, (k : Int) < nd ∧ (ff k).toInt = l ∧ (ft k).toInt = r ∧ (∀ j : Nat, j < k → ¬ ((ff j).toInt = l ∧ (ft j).toInt = r)) ∧ x = g k) ∨ ((∀ j : Nat, (j : Int) < nd → ¬ ((ff j).toInt = l ∧ (ft j).toInt = r)) ∧ x = -2)

