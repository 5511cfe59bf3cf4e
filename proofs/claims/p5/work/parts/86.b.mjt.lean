/-! the tree in its seven arrays -/
def mj_one (v : Int32) : Int32 → Int := fun w => if w = v then 1 else 0
def mj_nd (K : Nat) (nl nr fm fl fe vv vn : Nat → Int32) (a : Nat) (l r : Nat) (μ : Int32 → Int) (L c : Int32) : Prop :=
  (nl a).toInt = (l : Int) ∧ (nr a).toInt = (r : Int) ∧ 0 ≤ (fm a).toInt ∧ (fm a).toInt ≤ 6 ∧ (fm a).toInt ≤ (K : Int) ∧ fl a = L ∧ fe a = c ∧ mj_vs vv vn (6 * a) (fm a).toNatClampNeg μ ∧ mj_srt vv vn (6 * a) (fm a).toNatClampNeg
def mj_T (K : Nat) (f nl nr fm fl fe vv vn : Nat → Int32) : Nat → Nat → Nat → Nat → (Int32 → Int) → Int32 → Int32 → Prop
  | 0, a, l, r, μ, L, c => r = l + 1 ∧ μ = mj_one (f l) ∧ L = 0 ∧ c = 0 ∧ mj_nd K nl nr fm fl fe vv vn a l r μ L c
  | d + 1, a, l, r, μ, L, c => (r = l + 1 ∧ μ = mj_one (f l) ∧ L = 0 ∧ c = 0 ∧ mj_nd K nl nr fm fl fe vv vn a l r μ L c) ∨
    (l + 2 ≤ r ∧ mj_nd K nl nr fm fl fe vv vn a l r μ L c ∧ ∃ (μa : Int32 → Int) (La ca : Int32) (μb : Int32 → Int) (Lb cb : Int32), mj_T K f nl nr fm fl fe vv vn d (a + 1) l ((l + r) / 2) μa La ca ∧ mj_T K f nl nr fm fl fe vv vn d (a + 2 * ((l + r) / 2 - l)) ((l + r) / 2) r μb Lb cb ∧ mj_tog K μa μb μ c ∧ L = La + Lb + c)
def mj_S (K : Nat) (f nl nr fm fl fe vv vn : Nat → Int32) (d a l r : Nat) : Prop := ∃ (μ : Int32 → Int) (L c : Int32), mj_T K f nl nr fm fl fe vv vn d a l r μ L c
def mj_ag (a b : Nat) (nl nr fm fl fe vv vn nl2 nr2 fm2 fl2 fe2 vv2 vn2 : Nat → Int32) : Prop :=
  (∀ k : Nat, a ≤ k → k < b → nl2 k = nl k ∧ nr2 k = nr k ∧ fm2 k = fm k ∧ fl2 k = fl k ∧ fe2 k = fe k) ∧ (∀ q : Nat, 6 * a ≤ q → q < 6 * b → vv2 q = vv q ∧ vn2 q = vn q)
theorem mj_ag_sub {a b a2 b2 : Nat} {nl nr fm fl fe vv vn nl2 nr2 fm2 fl2 fe2 vv2 vn2 : Nat → Int32} (h : mj_ag a b nl nr fm fl fe vv vn nl2 nr2 fm2 fl2 fe2 vv2 vn2) (h1 : a ≤ a2) (h2 : b2 ≤ b) : mj_ag a2 b2 nl nr fm fl fe vv vn nl2 nr2 fm2 fl2 fe2 vv2 vn2 :=
  ⟨fun k x y => h.1 k (by omega) (by omega), fun q x y => h.2 q (by omega) (by omega)⟩
theorem mj_ag_trans {a b : Nat} {nl nr fm fl fe vv vn nl1 nr1 fm1 fl1 fe1 vv1 vn1 nl2 nr2 fm2 fl2 fe2 vv2 vn2 : Nat → Int32} (h : mj_ag a b nl nr fm fl fe vv vn nl1 nr1 fm1 fl1 fe1 vv1 vn1) (h2 : mj_ag a b nl1 nr1 fm1 fl1 fe1 vv1 vn1 nl2 nr2 fm2 fl2 fe2 vv2 vn2) : mj_ag a b nl nr fm fl fe vv vn nl2 nr2 fm2 fl2 fe2 vv2 vn2 := by
  refine ⟨fun k x y => ?_, fun q x y => ?_⟩
  · obtain ⟨a1, a2, a3, a4, a5⟩ := h.1 k x y
    obtain ⟨b1, b2, b3, b4, b5⟩ := h2.1 k x y
    exact ⟨b1.trans a1, b2.trans a2, b3.trans a3, b4.trans a4, b5.trans a5⟩
  · obtain ⟨a1, a2⟩ := h.2 q x y
    obtain ⟨b1, b2⟩ := h2.2 q x y
    exact ⟨b1.trans a1, b2.trans a2⟩
theorem mj_nd_ag {K : Nat} {nl nr fm fl fe vv vn nl2 nr2 fm2 fl2 fe2 vv2 vn2 : Nat → Int32} {a b l r : Nat} {μ : Int32 → Int} {L c : Int32} (h : mj_nd K nl nr fm fl fe vv vn a l r μ L c) (hab : a < b) (g : mj_ag a b nl nr fm fl fe vv vn nl2 nr2 fm2 fl2 fe2 vv2 vn2) : mj_nd K nl2 nr2 fm2 fl2 fe2 vv2 vn2 a l r μ L c := by
  obtain ⟨h1, h2, h3, h4, h4', h5, h6, h7, h8⟩ := h
  obtain ⟨e1, e2, e3, e4, e5⟩ := g.1 a (Nat.le_refl a) hab
  unfold mj_nd
  rw [e1, e2, e3, e4, e5]
  have hn := ki_nat (fm a) rfl h3
  have hq : ∀ j : Nat, j < (fm a).toNatClampNeg → vv2 (6 * a + j) = vv (6 * a + j) ∧ vn2 (6 * a + j) = vn (6 * a + j) := fun j hj => g.2 _ (by omega) (by omega)
  exact ⟨h1, h2, h3, h4, h4', h5, h6, mj_vs_seg h7 hq, mj_srt_seg h8 hq⟩
theorem mj_T_lt {K : Nat} {f nl nr fm fl fe vv vn : Nat → Int32} {d a l r : Nat} {μ : Int32 → Int} {L c : Int32} (h : mj_T K f nl nr fm fl fe vv vn d a l r μ L c) : l < r := by
  cases d with
  | zero => have := h.1; omega
  | succ d =>
    rcases h with h | h
    · have := h.1; omega
    · have := h.1; omega
theorem mj_T_nd {K : Nat} {f nl nr fm fl fe vv vn : Nat → Int32} {d a l r : Nat} {μ : Int32 → Int} {L c : Int32} (h : mj_T K f nl nr fm fl fe vv vn d a l r μ L c) : mj_nd K nl nr fm fl fe vv vn a l r μ L c := by
  cases d with
  | zero => exact h.2.2.2.2
  | succ d =>
    rcases h with h | h
    · exact h.2.2.2.2
    · exact h.2.1
theorem mj_T_ag {K : Nat} {f nl nr fm fl fe vv vn nl2 nr2 fm2 fl2 fe2 vv2 vn2 : Nat → Int32} : ∀ (d a b l r : Nat) (μ : Int32 → Int) (L c : Int32), mj_T K f nl nr fm fl fe vv vn d a l r μ L c → a + 2 * (r - l) - 1 ≤ b → mj_ag a b nl nr fm fl fe vv vn nl2 nr2 fm2 fl2 fe2 vv2 vn2 → mj_T K f nl2 nr2 fm2 fl2 fe2 vv2 vn2 d a l r μ L c
  | 0, a, b, l, r, μ, L, c, h, hb, g => by
    obtain ⟨h1, h2, h3, h4, h5⟩ := h
    exact ⟨h1, h2, h3, h4, mj_nd_ag h5 (by omega) g⟩
  | d + 1, a, b, l, r, μ, L, c, h, hb, g => by
    rcases h with ⟨h1, h2, h3, h4, h5⟩ | ⟨h1, h2, μa, La, ca, μb, Lb, cb, ta, tb, hg, hL⟩
    · exact Or.inl ⟨h1, h2, h3, h4, mj_nd_ag h5 (by omega) g⟩
    · exact Or.inr ⟨h1, mj_nd_ag h2 (by omega) g, μa, La, ca, μb, Lb, cb, mj_T_ag d _ b _ _ _ _ _ ta (by omega) (mj_ag_sub g (by omega) (Nat.le_refl b)), mj_T_ag d _ b _ _ _ _ _ tb (by omega) (mj_ag_sub g (by omega) (Nat.le_refl b)), hg, hL⟩
theorem mj_T_le {K : Nat} {f nl nr fm fl fe vv vn : Nat → Int32} : ∀ (d a l r : Nat) (μ : Int32 → Int) (L c : Int32), mj_T K f nl nr fm fl fe vv vn d a l r μ L c → ∀ v : Int32, 0 ≤ μ v ∧ μ v ≤ (r : Int) - (l : Int)
  | 0, a, l, r, μ, L, c, h, v => by
    obtain ⟨h1, h2, -⟩ := h
    subst h2; subst h1
    unfold mj_one
    split <;> omega
  | d + 1, a, l, r, μ, L, c, h, v => by
    rcases h with ⟨h1, h2, -⟩ | ⟨h1, h2, μa, La, ca, μb, Lb, cb, ta, tb, hg, hL⟩
    · subst h2; subst h1
      unfold mj_one
      split <;> omega
    · have ha := mj_T_le d _ _ _ _ _ _ ta
      have hb := mj_T_le d _ _ _ _ _ _ tb
      have h3 := mj_tog_le hg (fun w => (ha w).1) (fun w => (hb w).1) v
      have h4 := ha v
      have h5 := hb v
      omega
/-- a node's own facts, by its number -/
theorem mj_T_all {K : Nat} {f nl nr fm fl fe vv vn : Nat → Int32} : ∀ (d a l r : Nat) (μ : Int32 → Int) (L c : Int32), mj_T K f nl nr fm fl fe vv vn d a l r μ L c → ∀ k : Nat, a ≤ k → k < a + 2 * (r - l) - 1 → ∃ (e l2 r2 : Nat) (μ2 : Int32 → Int) (L2 c2 : Int32), e ≤ d ∧ l ≤ l2 ∧ r2 ≤ r ∧ mj_T K f nl nr fm fl fe vv vn e k l2 r2 μ2 L2 c2
  | 0, a, l, r, μ, L, c, h, k, h1, h2 => by
    have e : k = a := by have := h.1; omega
    subst e
    exact ⟨0, l, r, μ, L, c, Nat.le_refl 0, Nat.le_refl l, Nat.le_refl r, h⟩
  | d + 1, a, l, r, μ, L, c, h, k, h1, h2 => by
    by_cases hk : k = a
    · subst hk
      exact ⟨d + 1, l, r, μ, L, c, Nat.le_refl _, Nat.le_refl l, Nat.le_refl r, h⟩
    · rcases h with ⟨h3, -⟩ | ⟨h3, h4, μa, La, ca, μb, Lb, cb, ta, tb, hg, hL⟩
      · omega
      · rcases Nat.lt_or_ge k (a + 2 * ((l + r) / 2 - l)) with h9 | h9
        · obtain ⟨e, l2, r2, μ2, L2, c2, x1, x2, x3, x4⟩ := mj_T_all d _ _ _ _ _ _ ta k (by omega) (by omega)
          exact ⟨e, l2, r2, μ2, L2, c2, by omega, x2, by omega, x4⟩
        · obtain ⟨e, l2, r2, μ2, L2, c2, x1, x2, x3, x4⟩ := mj_T_all d _ _ _ _ _ _ tb k (by omega) (by omega)
          exact ⟨e, l2, r2, μ2, L2, c2, by omega, by omega, x3, x4⟩
/-- how many of n nodes from a on have the place p -/
def mj_pc (nl nr : Nat → Int32) (p : Int) (a : Nat) : Nat → Nat
  | 0 => 0
  | n + 1 => mj_pc nl nr p a n + (if (nl (a + n)).toInt ≤ p ∧ p < (nr (a + n)).toInt then 1 else 0)
theorem mj_pc_add (nl nr : Nat → Int32) (p : Int) (a x : Nat) : ∀ y : Nat, mj_pc nl nr p a (x + y) = mj_pc nl nr p a x + mj_pc nl nr p (a + x) y
  | 0 => rfl
  | y + 1 => by
    have ih := mj_pc_add nl nr p a x y
    have e : x + (y + 1) = (x + y) + 1 := rfl
    rw [e]
    simp only [mj_pc]
    rw [ih, ← Nat.add_assoc a x y, Nat.add_assoc]
theorem mj_pc_mono (nl nr : Nat → Int32) (p : Int) (a x y : Nat) (h : x ≤ y) : mj_pc nl nr p a x ≤ mj_pc nl nr p a y := by
  obtain ⟨z, rfl⟩ := Nat.le.dest h
  rw [mj_pc_add]
  omega
theorem mj_T_path {K : Nat} {f nl nr fm fl fe vv vn : Nat → Int32} (p : Int) : ∀ (d a l r : Nat) (μ : Int32 → Int) (L c : Int32), mj_T K f nl nr fm fl fe vv vn d a l r μ L c → mj_pc nl nr p a (2 * (r - l) - 1) ≤ d + 1 ∧ (p < (l : Int) ∨ (r : Int) ≤ p → mj_pc nl nr p a (2 * (r - l) - 1) = 0)
  | 0, a, l, r, μ, L, c, h => by
    obtain ⟨h1, -, -, -, hn⟩ := h
    have e : 2 * (r - l) - 1 = 0 + 1 := by omega
    rw [e]
    simp only [mj_pc, Nat.add_zero]
    have b1 := hn.1
    have b2 := hn.2.1
    refine ⟨by split <;> omega, fun h => ?_⟩
    rw [if_neg (by omega)]
  | d + 1, a, l, r, μ, L, c, h => by
    have one : mj_pc nl nr p a 1 = (if (nl a).toInt ≤ p ∧ p < (nr a).toInt then 1 else 0) := by
      simp only [mj_pc, Nat.add_zero, Nat.zero_add]
    rcases h with ⟨h1, -, -, -, hn⟩ | ⟨h3, hn, μa, La, ca, μb, Lb, cb, ta, tb, hg, hL⟩
    · have e : 2 * (r - l) - 1 = 1 := by omega
      rw [e, one]
      have b1 := hn.1
      have b2 := hn.2.1
      refine ⟨by split <;> omega, fun h => ?_⟩
      rw [if_neg (by omega)]
    · have ia := mj_T_path p d _ _ _ _ _ _ ta
      have ib := mj_T_path p d _ _ _ _ _ _ tb
      have e : 2 * (r - l) - 1 = 1 + ((2 * ((l + r) / 2 - l) - 1) + (2 * (r - (l + r) / 2) - 1)) := by omega
      have b1 := hn.1
      have b2 := hn.2.1
      rw [e, mj_pc_add, mj_pc_add, one, show a + 1 + (2 * ((l + r) / 2 - l) - 1) = a + 2 * ((l + r) / 2 - l) by omega]
      have hp : p < ((((l + r) / 2 : Nat)) : Int) ∨ ((((l + r) / 2 : Nat)) : Int) ≤ p := by omega
      refine ⟨?_, fun h => ?_⟩
      · rcases hp with h9 | h9
        · have := ib.2 (Or.inl h9)
          split <;> omega
        · have := ia.2 (Or.inr h9)
          split <;> omega
      · have z1 := ia.2 (by omega)
        have z2 := ib.2 (by omega)
        rw [if_neg (by omega), z1, z2]
theorem mj_lay_leaf {K : Nat} {f nl nr fm fl fe vv vn fm2 fl2 fe2 vv2 vn2 : Nat → Int32} {a l r : Nat} {l32 r32 : Int32} (d : Nat) (hK : 1 ≤ K) (hr : r = l + 1) (hl : l32.toInt = (l : Int)) (hr2 : r32.toInt = (r : Int)) (e1 : fm2 = upd fm a 1) (e2 : fl2 = upd fl a 0) (e3 : fe2 = upd fe a 0) (e4 : vv2 = upd vv (6 * a) (f l)) (e5 : vn2 = upd vn (6 * a) 1) :
    mj_S K f (upd nl a l32) (upd nr a r32) fm2 fl2 fe2 vv2 vn2 d a l r ∧ mj_ag 0 a nl nr fm fl fe vv vn (upd nl a l32) (upd nr a r32) fm2 fl2 fe2 vv2 vn2 := by
  subst e1; subst e2; subst e3; subst e4; subst e5
  have h1 : (1 : Int32).toInt = 1 := rfl
  have hn : mj_nd K (upd nl a l32) (upd nr a r32) (upd fm a 1) (upd fl a 0) (upd fe a 0) (upd vv (6 * a) (f l)) (upd vn (6 * a) 1) a l r (mj_one (f l)) 0 0 := by
    unfold mj_nd
    rw [upd_at, upd_at, upd_at, upd_at, upd_at]
    have h2 : (1 : Int32).toNatClampNeg = 1 := rfl
    rw [h2, h1]
    refine ⟨hl, hr2, by omega, by omega, by omega, rfl, rfl, ⟨?_, ?_, ?_⟩, fun i j hij hj => by omega⟩
    · intro j hj
      obtain rfl : j = 0 := by omega
      simp only [Nat.add_zero]
      rw [upd_at, upd_at, h1]
      unfold mj_one
      rw [if_pos rfl]
      omega
    · intro i j hi hj _
      omega
    · intro v hv
      refine ⟨0, by omega, ?_⟩
      simp only [Nat.add_zero]
      rw [upd_at]
      unfold mj_one at hv
      by_cases e : v = f l
      · exact e.symm
      · exact absurd (if_neg e) hv
  refine ⟨⟨mj_one (f l), 0, 0, ?_⟩, ⟨fun k x y => ?_, fun q x y => ?_⟩⟩
  · cases d with
    | zero => exact ⟨hr, rfl, rfl, rfl, hn⟩
    | succ d => exact Or.inl ⟨hr, rfl, rfl, rfl, hn⟩
  · have : ¬ k = a := by omega
    rw [upd_ne this, upd_ne this, upd_ne this, upd_ne this, upd_ne this]
    exact ⟨rfl, rfl, rfl, rfl, rfl⟩
  · have : ¬ q = 6 * a := by omega
    rw [upd_ne this, upd_ne this]
    exact ⟨rfl, rfl⟩
theorem mj_lay_node {K : Nat} {f nl nr fm fl fe vv vn nl1 nr1 fm1 fl1 fe1 vv1 vn1 nl2 nr2 fm2 fl2 fe2 vv2 vn2 fm3 fl3 fe3 vv3 vn3 : Nat → Int32} {d a l r md x y : Nat} {l32 r32 c lf : Int32} {μa μb μ : Int32 → Int} {La ca Lb cb : Int32}
    (hm : md = (l + r) / 2) (hlr : l + 2 ≤ r) (hl : l32.toInt = (l : Int)) (hr : r32.toInt = (r : Int)) (hx : x = a + 1) (hy : y = a + 2 * (md - l))
    (h1 : mj_ag 0 (a + 1) (upd nl a l32) (upd nr a r32) fm fl fe vv vn nl1 nr1 fm1 fl1 fe1 vv1 vn1) (h2 : mj_ag 0 y nl1 nr1 fm1 fl1 fe1 vv1 vn1 nl2 nr2 fm2 fl2 fe2 vv2 vn2)
    (ta : mj_T K f nl2 nr2 fm2 fl2 fe2 vv2 vn2 d x l md μa La ca) (tb : mj_T K f nl2 nr2 fm2 fl2 fe2 vv2 vn2 d y md r μb Lb cb) (tg : mj_tog K μa μb μ c)
    (e1 : fm3 = upd fm2 a lf) (b0 : 0 ≤ lf.toInt) (b1 : lf.toInt ≤ (K : Int)) (hK6 : K ≤ 6) (e2 : fl3 = upd fl2 a (fl2 x + fl2 y + c)) (e3 : fe3 = upd fe2 a c) (hv : mj_vs vv3 vn3 (6 * a) lf.toNatClampNeg μ) (hs : mj_srt vv3 vn3 (6 * a) lf.toNatClampNeg)
    (hq : ∀ q : Nat, (q < 6 * a ∨ 6 * a + 6 ≤ q) → vv3 q = vv2 q ∧ vn3 q = vn2 q) :
    mj_S K f nl2 nr2 fm3 fl3 fe3 vv3 vn3 (d + 1) a l r ∧ mj_ag 0 a nl nr fm fl fe vv vn nl2 nr2 fm3 fl3 fe3 vv3 vn3 := by
  subst hm; subst hx; subst hy; subst e1; subst e2; subst e3
  have g3 : ∀ b : Nat, mj_ag (a + 1) b nl2 nr2 fm2 fl2 fe2 vv2 vn2 nl2 nr2 (upd fm2 a lf) (upd fl2 a (fl2 (a + 1) + fl2 (a + 2 * ((l + r) / 2 - l)) + c)) (upd fe2 a c) vv3 vn3 := fun b =>
    ⟨fun k x y => by
      have : ¬ k = a := by omega
      rw [upd_ne this, upd_ne this, upd_ne this]
      exact ⟨rfl, rfl, rfl, rfl, rfl⟩, fun q x y => hq q (by omega)⟩
  have ea := (h1.1 a (by omega) (by omega))
  have eb := (h2.1 a (by omega) (by omega))
  have na := mj_T_nd ta
  have nb := mj_T_nd tb
  refine ⟨⟨μ, La + Lb + c, c, Or.inr ⟨hlr, ?_, μa, La, ca, μb, Lb, cb, ?_, ?_, tg, rfl⟩⟩, ?_⟩
  · unfold mj_nd
    rw [upd_at, upd_at, upd_at, eb.1, ea.1, eb.2.1, ea.2.1, upd_at, upd_at]
    refine ⟨hl, hr, b0, by omega, b1, ?_, rfl, hv, hs⟩
    rw [na.2.2.2.2.2.1, nb.2.2.2.2.2.1]
  · exact mj_T_ag d _ _ _ _ _ _ _ ta (Nat.le_refl _) (g3 _)
  · exact mj_T_ag d _ _ _ _ _ _ _ tb (Nat.le_refl _) (mj_ag_sub (g3 _) (by omega) (Nat.le_refl _))
  · refine ⟨fun k x y => ?_, fun q x y => ?_⟩
    · have : ¬ k = a := by omega
      obtain ⟨p1, p2, p3, p4, p5⟩ := h1.1 k (by omega) (by omega)
      obtain ⟨q1, q2, q3, q4, q5⟩ := h2.1 k (by omega) (by omega)
      rw [upd_ne this] at p1 p2
      rw [upd_ne this, upd_ne this, upd_ne this]
      exact ⟨q1.trans p1, q2.trans p2, q3.trans p3, q4.trans p4, q5.trans p5⟩
    · obtain ⟨p1, p2⟩ := h1.2 q (by omega) (by omega)
      obtain ⟨q1, q2⟩ := h2.2 q (by omega) (by omega)
      obtain ⟨r1, r2⟩ := hq q (by omega)
      exact ⟨r1.trans (q1.trans p1), r2.trans (q2.trans p2)⟩
theorem mj_T_leafAt {K : Nat} {f nl nr fm fl fe vv vn : Nat → Int32} (p : Nat) : ∀ (d a l r : Nat) (μ : Int32 → Int) (L c : Int32), mj_T K f nl nr fm fl fe vv vn d a l r μ L c → l ≤ p → p < r → ∃ k : Nat, a ≤ k ∧ k < a + 2 * (r - l) - 1 ∧ (nl k).toInt = (p : Int) ∧ (nr k).toInt = (p : Int) + 1
  | 0, a, l, r, μ, L, c, h, h1, h2 => by
    have n := h.2.2.2.2
    have e := h.1
    exact ⟨a, by omega, by omega, by have := n.1; omega, by have := n.2.1; omega⟩
  | d + 1, a, l, r, μ, L, c, h, h1, h2 => by
    rcases h with ⟨e, -, -, -, n⟩ | ⟨h3, n, μa, La, ca, μb, Lb, cb, ta, tb, hg, hL⟩
    · exact ⟨a, by omega, by omega, by have := n.1; omega, by have := n.2.1; omega⟩
    · rcases Nat.lt_or_ge p ((l + r) / 2) with h9 | h9
      · obtain ⟨k, x1, x2, x3, x4⟩ := mj_T_leafAt p d _ _ _ _ _ _ ta h1 h9
        exact ⟨k, by omega, by omega, x3, x4⟩
      · obtain ⟨k, x1, x2, x3, x4⟩ := mj_T_leafAt p d _ _ _ _ _ _ tb h9 h2
        exact ⟨k, by omega, by omega, x3, x4⟩
def mj_L (K : Nat) (f nl nr fm fl fe vv vn : Nat → Int32) (n nd : Int) : Prop := (n ≤ 0 ∧ nd = 0) ∨ (0 < n ∧ nd = 2 * n - 1 ∧ mj_S K f nl nr fm fl fe vv vn 8 0 0 n.toNat)
theorem mj_L_path {K : Nat} {f nl nr fm fl fe vv vn : Nat → Int32} {n nd : Int} (h : mj_L K f nl nr fm fl fe vv vn n nd) (p : Int) (k : Nat) (hk : (k : Int) ≤ nd) : mj_pc nl nr p 0 k ≤ 9 := by
  rcases h with ⟨h1, h2⟩ | ⟨h1, h2, μ, L, c, h3⟩
  · obtain rfl : k = 0 := by omega
    exact Nat.zero_le _
  · have a := (mj_T_path p _ _ _ _ _ _ _ h3).1
    have b := mj_pc_mono nl nr p 0 k (2 * (n.toNat - 0) - 1) (by omega)
    omega
theorem mj_L_ok {K : Nat} {f nl nr fm fl fe vv vn : Nat → Int32} {n nd : Int} (h : mj_L K f nl nr fm fl fe vv vn n nd) (k : Nat) (hk : (k : Int) < nd) : 0 ≤ (nl k).toInt ∧ (nl k).toInt < (nr k).toInt ∧ (nr k).toInt ≤ n := by
  rcases h with ⟨h1, h2⟩ | ⟨h1, h2, μ, L, c, h3⟩
  · omega
  · obtain ⟨e, l2, r2, μ2, L2, c2, x1, x2, x3, x4⟩ := mj_T_all _ _ _ _ _ _ _ h3 k (by omega) (by omega)
    have a := mj_T_lt x4
    have b := mj_T_nd x4
    have b1 := b.1
    have b2 := b.2.1
    omega
theorem mj_L_vs {K : Nat} {f nl nr fm fl fe vv vn : Nat → Int32} {n nd : Int} (h : mj_L K f nl nr fm fl fe vv vn n nd) (hn : n ≤ 160) (k : Nat) (hk : (k : Int) < nd) : 0 ≤ (fm k).toInt ∧ (fm k).toInt ≤ 6 ∧ (fm k).toInt ≤ (K : Int) ∧ ∃ μ : Int32 → Int, mj_vs vv vn (6 * k) (fm k).toNatClampNeg μ ∧ mj_srt vv vn (6 * k) (fm k).toNatClampNeg ∧ ∀ v : Int32, 0 ≤ μ v ∧ μ v ≤ 160 := by
  rcases h with ⟨h1, h2⟩ | ⟨h1, h2, μ, L, c, h3⟩
  · omega
  · obtain ⟨e, l2, r2, μ2, L2, c2, x1, x2, x3, x4⟩ := mj_T_all _ _ _ _ _ _ _ h3 k (by omega) (by omega)
    have b := mj_T_nd x4
    refine ⟨b.2.2.1, b.2.2.2.1, b.2.2.2.2.1, μ2, b.2.2.2.2.2.2.2.1, b.2.2.2.2.2.2.2.2, fun v => ?_⟩
    have := mj_T_le _ _ _ _ _ _ _ x4 v
    omega
theorem mj_L_ag {K : Nat} {f nl nr fm fl fe vv vn nl2 nr2 fm2 fl2 fe2 vv2 vn2 : Nat → Int32} {n nd : Int} {b : Nat} (h : mj_L K f nl nr fm fl fe vv vn n nd) (hb : nd ≤ (b : Int)) (g : mj_ag 0 b nl nr fm fl fe vv vn nl2 nr2 fm2 fl2 fe2 vv2 vn2) : mj_L K f nl2 nr2 fm2 fl2 fe2 vv2 vn2 n nd := by
  rcases h with h | ⟨h1, h2, μ, L, c, h3⟩
  · exact Or.inl h
  · exact Or.inr ⟨h1, h2, μ, L, c, mj_T_ag _ _ b _ _ _ _ _ h3 (by omega) g⟩
theorem mj_pb_stay (nl nr : Nat → Int32) (l r : Int) : ∀ k : Nat, mj_pq nl nr l r k = 0 → mj_pb nl nr l r k = l
  | 0, _ => rfl
  | k + 1, h => by
    simp only [mj_pq] at h
    by_cases hp : (nl k).toInt = mj_pb nl nr l r k ∧ (nr k).toInt ≤ r
    · rw [if_pos hp] at h
      omega
    · simp only [mj_pb]
      rw [if_neg hp]
      rw [if_neg hp] at h
      exact mj_pb_stay nl nr l r k (by omega)
theorem mj_L_pq {K : Nat} {f nl nr fm fl fe vv vn : Nat → Int32} {n nd l r : Int} (h : mj_L K f nl nr fm fl fe vv vn n nd) (hl : 0 ≤ l) (hlr : l < r) (hr : r ≤ n) : 0 < mj_pq nl nr l r nd.toNat := by
  rcases h with ⟨h1, h2⟩ | ⟨h1, h2, μ, L, c, h3⟩
  · omega
  · obtain ⟨k, x1, x2, x3, x4⟩ := mj_T_leafAt l.toNat _ _ _ _ _ _ _ h3 (by omega) (by omega)
    rcases Nat.eq_zero_or_pos (mj_pq nl nr l r k) with h9 | h9
    · have a := mj_pb_stay nl nr l r k h9
      have b := mj_pq_mono nl nr l r (k + 1) nd.toNat (by omega)
      have c : mj_pq nl nr l r (k + 1) = mj_pq nl nr l r k + 1 := by
        simp only [mj_pq]
        rw [if_pos ⟨by omega, by omega⟩]
      omega
    · have b := mj_pq_mono nl nr l r k nd.toNat (by omega)
      omega
theorem mj_pq_at (nl nr : Nat → Int32) (l r : Int) (j : Nat) : ∀ k : Nat, j < mj_pq nl nr l r k → ∃ i : Nat, i < k ∧ mj_isp nl nr l r i ∧ mj_pq nl nr l r i = j
  | 0, h => absurd h (Nat.not_lt_zero j)
  | k + 1, h => by
    by_cases hj : j < mj_pq nl nr l r k
    · obtain ⟨i, x1, x2, x3⟩ := mj_pq_at nl nr l r j k hj
      exact ⟨i, by omega, x2, x3⟩
    · simp only [mj_pq] at h
      by_cases hp : (nl k).toInt = mj_pb nl nr l r k ∧ (nr k).toInt ≤ r
      · rw [if_pos hp] at h
        exact ⟨k, by omega, hp, by omega⟩
      · rw [if_neg hp] at h
        omega
/-- the summary of the first parts of a range -/
def mj_H (K : Nat) (nl nr fm fl vv vn : Nat → Int32) (l r : Int) : Nat → (Int32 → Int) → Int32 → Prop
  | 0, μ, L => μ = mj_z ∧ L = 0
  | j + 1, μ, L => ∃ (k : Nat) (μ0 : Int32 → Int) (L0 c : Int32) (μk : Int32 → Int), k < 320 ∧ mj_H K nl nr fm fl vv vn l r j μ0 L0 ∧ mj_isp nl nr l r k ∧ mj_pq nl nr l r k = j ∧ mj_vs vv vn (6 * k) (fm k).toNatClampNeg μk ∧ 0 ≤ (fm k).toInt ∧ (fm k).toInt ≤ 6 ∧ mj_tog K μ0 μk μ c ∧ L = L0 + fl k + c
theorem mj_H_ag {K : Nat} {nl nr fm fl fe vv vn fm2 fl2 fe2 vv2 vn2 : Nat → Int32} {l r : Int} (g : mj_ag 0 320 nl nr fm fl fe vv vn nl nr fm2 fl2 fe2 vv2 vn2) : ∀ (j : Nat) (μ : Int32 → Int) (L : Int32), mj_H K nl nr fm fl vv vn l r j μ L → mj_H K nl nr fm2 fl2 vv2 vn2 l r j μ L
  | 0, _, _, h => h
  | j + 1, μ, L, h => by
    obtain ⟨k, μ0, L0, c, μk, h1, h2, h3, h4, h5, h6, h7, h8, h9⟩ := h
    obtain ⟨-, -, e1, e2, -⟩ := g.1 k (by omega) h1
    have hn := ki_nat (fm k) rfl h6
    refine ⟨k, μ0, L0, c, μk, h1, mj_H_ag g j μ0 L0 h2, h3, h4, ?_, ?_, ?_, h8, ?_⟩
    · rw [e1]
      exact mj_vs_seg h5 (fun i hi => g.2 _ (by omega) (by omega))
    · rw [e1]; exact h6
    · rw [e1]; exact h7
    · rw [e2]; exact h9
theorem mj_tog_first {V N : Nat → Int32} {o m K : Nat} {μ : Int32 → Int} (h : mj_vs V N o m μ) (hs : mj_srt V N o m) (hm : m ≤ K) : mj_tog K mj_z μ μ 0 := by
  have hz : ∀ v : Int32, mj_z v + μ v = μ v := fun v => by show (0 : Int) + μ v = μ v; omega
  refine ⟨fun j => V (o + j), fun j => N (o + j), m, ⟨fun j hj => ?_, fun i j hi hj e => ?_, fun v hv => ?_⟩, fun i j hij hj => ?_, Or.inl ⟨hm, rfl⟩, fun v => ?_⟩
  · dsimp only
    rw [Nat.zero_add, hz]
    exact h.1 j hj
  · dsimp only at e
    rw [Nat.zero_add, Nat.zero_add] at e
    exact h.2.1 i j hi hj e
  · dsimp only at hv
    rw [hz] at hv
    obtain ⟨j, hj, e⟩ := h.2.2 v hv
    exact ⟨j, hj, by dsimp only; rw [Nat.zero_add]; exact e⟩
  · have := hs i j hij hj
    unfold mj_lea at this ⊢
    dsimp only
    rw [Nat.zero_add, Nat.zero_add]
    exact this
  · have k0 : (0 : Int32).toInt = 0 := rfl
    have := mj_vs_nn h v
    rw [hz, k0]
    split <;> omega
/-- the summary of the first j parts lies at 320 -/
def mj_F (K : Nat) (nl nr fm fl vv vn fm2 fl2 vv2 vn2 : Nat → Int32) (l r : Int) (j : Nat) : Prop := ∃ (μ : Int32 → Int) (L : Int32), mj_H K nl nr fm fl vv vn l r j μ L ∧ mj_vs vv2 vn2 1920 (fm2 320).toNatClampNeg μ ∧ mj_srt vv2 vn2 1920 (fm2 320).toNatClampNeg ∧ 0 ≤ (fm2 320).toInt ∧ (fm2 320).toInt ≤ (K : Int) ∧ fl2 320 = L ∧ ∀ v : Int32, 0 ≤ μ v ∧ μ v ≤ 160 * (j : Int)


