def parts320 (f : Nat → Int32) : Prop := ∀ k : Nat, k < 320 → 0 ≤ (f k).toInt ∧ (f k).toInt < 320
theorem parts320_upd {f : Nat → Int32} {k : Nat} {x : Int32} (h : parts320 f) (h1 : 0 ≤ x.toInt) (h2 : x.toInt < 320) : parts320 (upd f k x) := by
  intro j hj
  unfold upd
  split
  · exact ⟨h1, h2⟩
  · exact h j hj
theorem mj_vs_ag {nl nr fm fl fe vv vn nl2 nr2 fm2 fl2 fe2 vv2 vn2 : Nat → Int32} {k b : Nat} {μ : Int32 → Int} (g : mj_ag 0 b nl nr fm fl fe vv vn nl2 nr2 fm2 fl2 fe2 vv2 vn2) (hk : k < b) (b0 : 0 ≤ (fm k).toInt) (b6 : (fm k).toInt ≤ 6) (hv : mj_vs vv vn (6 * k) (fm k).toNatClampNeg μ) : 0 ≤ (fm2 k).toInt ∧ (fm2 k).toInt ≤ 6 ∧ mj_vs vv2 vn2 (6 * k) (fm2 k).toNatClampNeg μ ∧ fl2 k = fl k := by
  obtain ⟨-, -, e3, e4, -⟩ := g.1 k (by omega) hk
  have hn := ki_nat (fm k) rfl b0
  rw [e3]
  exact ⟨b0, b6, mj_vs_seg hv (fun i hi => g.2 _ (by omega) (by omega)), e4⟩
theorem mj_F_one {K : Nat} {nl nr fm fl vv vn fm2 fl2 vv2 vn2 : Nat → Int32} {l r : Int} {i0 : Nat} {μ : Int32 → Int} (hi : i0 < 320) (hp : mj_isp nl nr l r i0) (hq : mj_pq nl nr l r i0 = 0) (b0 : 0 ≤ (fm i0).toInt) (b6 : (fm i0).toInt ≤ 6) (bK : (fm i0).toInt ≤ (K : Int)) (hv : mj_vs vv vn (6 * i0) (fm i0).toNatClampNeg μ) (hs : mj_srt vv vn (6 * i0) (fm i0).toNatClampNeg) (hb : ∀ v : Int32, 0 ≤ μ v ∧ μ v ≤ 160) (e1 : fm2 = upd fm 320 (fm i0)) (e2 : fl2 = upd fl 320 (fl i0)) (hc : mj_cp vv vn vv2 vn2 i0 320 6) : mj_F K nl nr fm fl vv vn fm2 fl2 vv2 vn2 l r 1 := by
  subst e1; subst e2
  have hn := ki_nat (fm i0) rfl b0
  have hj : ∀ j : Nat, j < (fm i0).toNatClampNeg → vv2 (1920 + j) = vv (6 * i0 + j) ∧ vn2 (1920 + j) = vn (6 * i0 + j) := fun j h => hc.1 j (by omega)
  refine ⟨μ, fl i0, ⟨i0, mj_z, 0, 0, μ, hi, ⟨rfl, rfl⟩, hp, hq, hv, b0, b6, mj_tog_first hv hs (by omega), by simp⟩, ?_, ?_, ?_, ?_, ?_, fun v => ?_⟩
  · rw [upd_at]
    refine ⟨fun j h => ?_, fun i j hi hj2 e => ?_, fun v h => ?_⟩
    · rw [(hj j h).1, (hj j h).2]; exact hv.1 j h
    · rw [(hj i hi).1, (hj j hj2).1] at e; exact hv.2.1 i j hi hj2 e
    · obtain ⟨j, h1, h2⟩ := hv.2.2 v h
      exact ⟨j, h1, by rw [(hj j h1).1]; exact h2⟩
  · rw [upd_at]
    intro i j hij h
    have := hs i j hij h
    unfold mj_lea at this ⊢
    rw [(hj i (by omega)).1, (hj i (by omega)).2, (hj j h).1, (hj j h).2]
    exact this
  · rw [upd_at]; exact b0
  · rw [upd_at]; exact bK
  · rw [upd_at]
  · have := hb v
    omega
theorem mj_F_step {K : Nat} {nl nr fm fl vv vn gm gl fm3 fl3 vv3 vn3 : Nat → Int32} {l r : Int} {j j2 k9 : Nat} {mua mub mu : Int32 → Int} {L0 c lf : Int32} (hH : mj_H K nl nr fm fl vv vn l r j mua L0) (hi : k9 < 320) (hp : mj_isp nl nr l r k9) (hq : mj_pq nl nr l r k9 = j) (b0 : 0 ≤ (fm k9).toInt) (b6 : (fm k9).toInt ≤ 6) (hv : mj_vs vv vn (6 * k9) (fm k9).toNatClampNeg mub) (tg : mj_tog K mua mub mu c) (e : fl3 = upd gl 320 (gl 320 + gl k9 + c)) (eL : gl 320 = L0) (ek : gl k9 = fl k9) (ef : fm3 = upd gm 320 lf) (c0 : 0 ≤ lf.toInt) (cK : lf.toInt ≤ (K : Int)) (v3 : mj_vs vv3 vn3 1920 lf.toNatClampNeg mu) (s3 : mj_srt vv3 vn3 1920 lf.toNatClampNeg) (ha : ∀ v : Int32, 0 ≤ mua v ∧ mua v ≤ 160 * (j : Int)) (hb : ∀ v : Int32, 0 ≤ mub v ∧ mub v ≤ 160) (ej : j2 = j + 1) : mj_F K nl nr fm fl vv vn fm3 fl3 vv3 vn3 l r j2 := by
  subst e; subst ef; subst ej
  refine ⟨mu, L0 + fl k9 + c, ⟨k9, mua, L0, c, mub, hi, hH, hp, hq, hv, b0, b6, tg, rfl⟩, ?_, ?_, ?_, ?_, ?_, fun v => ?_⟩
  · rw [upd_at]; exact v3
  · rw [upd_at]; exact s3
  · rw [upd_at]; exact c0
  · rw [upd_at]; exact cK
  · rw [upd_at, eL, ek]
  · have h1 := mj_tog_le tg (fun w => (ha w).1) (fun w => (hb w).1) v
    have h2 := ha v
    have h3 := hb v
    omega
theorem mj_F_self {K : Nat} {nl nr fm fl fe vv vn fm2 fl2 fe2 vv2 vn2 : Nat → Int32} {l r : Int} {j j2 : Nat} (h : mj_F K nl nr fm fl vv vn fm2 fl2 vv2 vn2 l r j) (g : mj_ag 0 320 nl nr fm fl fe vv vn nl nr fm2 fl2 fe2 vv2 vn2) (e : j2 = j) : mj_F K nl nr fm2 fl2 vv2 vn2 fm2 fl2 vv2 vn2 l r j2 := by
  subst e
  obtain ⟨μ, L, hH, h⟩ := h
  exact ⟨μ, L, mj_H_ag g _ _ _ hH, h⟩
theorem mj_ag_cp {nl nr fm fl fe vv vn fm2 fl2 fe2 vv2 vn2 : Nat → Int32} {a : Nat} {x y z : Int32} (e1 : fm2 = upd fm 320 x) (e2 : fl2 = upd fl 320 y) (e3 : fe2 = upd fe 320 z) (hc : mj_cp vv vn vv2 vn2 a 320 6) : mj_ag 0 320 nl nr fm fl fe vv vn nl nr fm2 fl2 fe2 vv2 vn2 := by
  subst e1; subst e2; subst e3
  refine ⟨fun k h1 h2 => ?_, fun q h1 h2 => hc.2 q (by omega)⟩
  have : ¬ k = 320 := by omega
  rw [upd_ne this, upd_ne this, upd_ne this]
  exact ⟨rfl, rfl, rfl, rfl, rfl⟩
theorem mj_ag_tg {nl nr fm fl fe vv vn gm gl ge gvv gvn fm3 fl3 fe3 vv3 vn3 : Nat → Int32} {x y z : Int32} (g : mj_ag 0 320 nl nr fm fl fe vv vn nl nr gm gl ge gvv gvn) (e1 : fm3 = upd gm 320 x) (e2 : fl3 = upd gl 320 y) (e3 : fe3 = upd ge 320 z) (hq : ∀ q : Nat, (q < 1920 ∨ 1926 ≤ q) → vv3 q = gvv q ∧ vn3 q = gvn q) : mj_ag 0 320 nl nr fm fl fe vv vn nl nr fm3 fl3 fe3 vv3 vn3 := by
  subst e1; subst e2; subst e3
  refine mj_ag_trans g ⟨fun k h1 h2 => ?_, fun q h1 h2 => hq q (by omega)⟩
  have : ¬ k = 320 := by omega
  rw [upd_ne this, upd_ne this, upd_ne this]
  exact ⟨rfl, rfl, rfl, rfl, rfl⟩
/-! the nodes that have a place -/
def pathOk (f : Nat → Int32) (m nd : Int) : Prop := ∀ k : Nat, (k : Int) < m → 0 ≤ (f k).toInt ∧ (f k).toInt < nd
theorem pathOk_0 (f : Nat → Int32) {m nd : Int} (h : m ≤ 0) : pathOk f m nd := fun k hk => absurd hk (by omega)
theorem pathOk_put {f : Nat → Int32} {m m2 nd : Int} {q : Nat} {x : Int32} (h : pathOk f m nd) (hq : (q : Int) = m) (e : m2 = m + 1) (h0 : 0 ≤ x.toInt) (h1 : x.toInt < nd) : pathOk (upd f q x) m2 nd := by
  intro k hk
  unfold upd
  split
  · exact ⟨h0, h1⟩
  · exact h k (by omega)
def mj_has (nl nr : Nat → Int32) (p : Int) (k : Nat) : Prop := (nl k).toInt ≤ p ∧ p < (nr k).toInt
def mj_pw (nl nr : Nat → Int32) (p : Int) (gp : Nat → Int32) (k : Nat) : Prop := ∀ j : Nat, j < k → mj_has nl nr p j → (gp (mj_pc nl nr p 0 j)).toInt = (j : Int)
theorem mj_pc_no {nl nr : Nat → Int32} {p : Int} {k : Nat} (h : ¬ mj_has nl nr p k) : mj_pc nl nr p 0 (k + 1) = mj_pc nl nr p 0 k := by
  simp only [mj_pc, Nat.zero_add]
  rw [if_neg (show ¬ ((nl k).toInt ≤ p ∧ p < (nr k).toInt) from h)]
  omega
theorem mj_pc_yes {nl nr : Nat → Int32} {p : Int} {k : Nat} (h : mj_has nl nr p k) : mj_pc nl nr p 0 (k + 1) = mj_pc nl nr p 0 k + 1 := by
  simp only [mj_pc, Nat.zero_add]
  rw [if_pos (show (nl k).toInt ≤ p ∧ p < (nr k).toInt from h)]
theorem mj_pw_0 (nl nr : Nat → Int32) (p : Int) (gp : Nat → Int32) {k : Nat} (hk : k = 0) : mj_pw nl nr p gp k := fun j h => absurd h (by omega)
theorem mj_pw_skip {nl nr gp : Nat → Int32} {p : Int} {k k2 : Nat} (h : mj_pw nl nr p gp k) (hn : ¬ mj_has nl nr p k) (e : k2 = k + 1) : mj_pw nl nr p gp k2 ∧ mj_pc nl nr p 0 k2 = mj_pc nl nr p 0 k := by
  subst e
  refine ⟨fun j hj hp => ?_, mj_pc_no hn⟩
  rcases Nat.lt_or_eq_of_le (Nat.le_of_lt_succ hj) with h9 | h9
  · exact h j h9 hp
  · subst h9; exact absurd hp hn
theorem mj_pw_put {nl nr gp : Nat → Int32} {p : Int} {k k2 q : Nat} {x : Int32} (h : mj_pw nl nr p gp k) (hp : mj_has nl nr p k) (e : k2 = k + 1) (eq : q = mj_pc nl nr p 0 k) (ex : x.toInt = (k : Int)) : mj_pw nl nr p (upd gp q x) k2 ∧ mj_pc nl nr p 0 k2 = mj_pc nl nr p 0 k + 1 := by
  subst e; subst eq
  refine ⟨fun j hj hpj => ?_, mj_pc_yes hp⟩
  rcases Nat.lt_or_eq_of_le (Nat.le_of_lt_succ hj) with h9 | h9
  · have h1 := mj_pc_mono nl nr p 0 (j + 1) k (by omega)
    have h2 := mj_pc_yes hpj
    rw [upd_ne (by omega)]
    exact h j h9 hpj
  · subst h9
    rw [upd_at]; exact ex


