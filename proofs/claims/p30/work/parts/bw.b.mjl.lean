/-! least: by how many slots all heavy ones are among the votes -/
theorem mj_pig : ∀ (k m : Nat) (A B : Nat → Int32), (∀ i j : Nat, i < m → j < m → A i = A j → i = j) → (∀ i : Nat, i < m → ∃ j : Nat, j < k ∧ B j = A i) → m ≤ k
  | 0, 0, _, _, _, _ => Nat.le_refl 0
  | 0, m + 1, _, _, _, h => by
    obtain ⟨j, hj, -⟩ := h 0 (Nat.succ_pos m)
    exact absurd hj (Nat.not_lt_zero j)
  | k + 1, 0, _, _, _, _ => Nat.zero_le _
  | k + 1, m + 1, A, B, hd, h => by
    obtain ⟨j, hj, ej⟩ := h m (Nat.lt_succ_self m)
    have ih := mj_pig k m A (upd B j (B k)) (fun x y hx hy e => hd x y (by omega) (by omega) e) (fun i hi => by
      obtain ⟨t, ht, et⟩ := h i (by omega)
      have ne : ¬ t = j := fun e => by
        rw [e, ej] at et
        have := hd m i (by omega) (by omega) et
        omega
      by_cases c : t = k
      · refine ⟨j, by omega, ?_⟩
        rw [upd_at, ← c]
        exact et
      · exact ⟨t, by omega, by rw [upd_ne ne]; exact et⟩)
    omega
/-- V tells those of P, each once -/
def mj_en (V : Nat → Int32) (m : Nat) (P : Int32 → Prop) : Prop := (∀ i j : Nat, i < m → j < m → V i = V j → i = j) ∧ (∀ j : Nat, j < m → P (V j)) ∧ ∀ v : Int32, P v → ∃ j : Nat, j < m ∧ V j = v
theorem mj_en_0 {V : Nat → Int32} {m : Nat} {P : Int32 → Prop} (hm : m = 0) (h : ∀ v : Int32, ¬ P v) : mj_en V m P := by
  subst hm
  exact ⟨fun i j hi => absurd hi (Nat.not_lt_zero i), fun j hj => absurd hj (Nat.not_lt_zero j), fun v hv => absurd hv (h v)⟩
theorem mj_en_new {V : Nat → Int32} {m m2 : Nat} {P P2 : Int32 → Prop} {x : Int32} (h : mj_en V m P) (hx : ¬ P x) (hP : ∀ v : Int32, P2 v ↔ (P v ∨ v = x)) (e : m2 = m + 1) : mj_en (upd V m x) m2 P2 := by
  subst e
  obtain ⟨h1, h2, h3⟩ := h
  have ne : ∀ j : Nat, j < m → ¬ V j = x := fun j hj c => hx (by rw [← c]; exact h2 j hj)
  refine ⟨fun i j hi hj c => ?_, fun j hj => ?_, fun v hv => ?_⟩
  · by_cases hi2 : i = m
    · by_cases hj2 : j = m
      · omega
      · rw [hi2, upd_at, upd_ne hj2] at c
        exact absurd c.symm (ne j (by omega))
    · by_cases hj2 : j = m
      · rw [hj2, upd_at, upd_ne hi2] at c
        exact absurd c (ne i (by omega))
      · rw [upd_ne hi2, upd_ne hj2] at c
        exact h1 i j (by omega) (by omega) c
  · by_cases hj2 : j = m
    · rw [hj2, upd_at]
      exact (hP x).mpr (Or.inr rfl)
    · rw [upd_ne hj2]
      exact (hP _).mpr (Or.inl (h2 j (by omega)))
  · rcases (hP v).mp hv with c | c
    · obtain ⟨j, j1, j2⟩ := h3 v c
      exact ⟨j, by omega, by rw [upd_ne (show ¬ j = m by omega)]; exact j2⟩
    · exact ⟨m, by omega, by rw [upd_at]; exact c.symm⟩
theorem mj_en_iff {V : Nat → Int32} {m : Nat} {P P2 : Int32 → Prop} (h : mj_en V m P) (hP : ∀ v : Int32, P2 v ↔ P v) : mj_en V m P2 := ⟨h.1, fun j hj => (hP _).mpr (h.2.1 j hj), fun v hv => h.2.2 v ((hP v).mp hv)⟩
theorem mj_en_sub {A B : Nat → Int32} {a b : Nat} {P Q : Int32 → Prop} (hA : mj_en A a P) (hB : mj_en B b Q) (h : ∀ v : Int32, P v → Q v) : a ≤ b ∧ (a = b → ∀ v : Int32, Q v → P v) := by
  refine ⟨mj_pig b a A B hA.1 (fun i hi => hB.2.2 _ (h _ (hA.2.1 i hi))), fun e v hv => ?_⟩
  rcases Classical.em (P v) with c | c
  · exact c
  · exfalso
    have n := mj_en_new (P2 := fun w => P w ∨ w = v) hA c (fun w => Iff.rfl) rfl
    have q := mj_pig b (a + 1) (upd A a v) B n.1 (fun i hi => by
      rcases n.2.1 i hi with q | q
      · exact hB.2.2 _ (h _ q)
      · exact hB.2.2 _ (by rw [q]; exact hv))
    omega
theorem mj_en_hk {p q n : Int} {V : Nat → Int32} {g : Int32 → Int} : ∀ m : Nat, (∀ i j : Nat, i < m → j < m → V i = V j → i = j) → ∃ W : Nat → Int32, mj_en W (mj_hk p q n V g m) (fun v => (∃ j : Nat, j < m ∧ V j = v) ∧ p * n < g v * q)
  | 0, _ => ⟨V, mj_en_0 rfl (fun v h => by
      obtain ⟨⟨j, hj, -⟩, -⟩ := h
      exact absurd hj (Nat.not_lt_zero j))⟩
  | m + 1, hd => by
    obtain ⟨W, hW⟩ := mj_en_hk (p := p) (q := q) (n := n) (V := V) (g := g) m (fun i j hi hj e => hd i j (by omega) (by omega) e)
    by_cases c : p * n < g (V m) * q
    · refine ⟨upd W (mj_hk p q n V g m) (V m), mj_en_new hW (fun h => ?_) (fun v => ⟨fun h => ?_, fun h => ?_⟩) (mj_hk_yes c rfl)⟩
      · obtain ⟨⟨j, hj, e⟩, -⟩ := h
        have := hd j m (by omega) (by omega) e
        omega
      · obtain ⟨⟨j, hj, e⟩, h2⟩ := h
        rcases Nat.lt_or_eq_of_le (Nat.le_of_lt_succ hj) with y | y
        · exact Or.inl ⟨⟨j, y, e⟩, h2⟩
        · rw [y] at e
          exact Or.inr e.symm
      · rcases h with h | h
        · obtain ⟨⟨j, hj, e⟩, h2⟩ := h
          exact ⟨⟨j, by omega, e⟩, h2⟩
        · rw [h]
          exact ⟨⟨m, by omega, rfl⟩, c⟩
    · have z : mj_hk p q n V g (m + 1) = mj_hk p q n V g m := mj_hk_no (Int.not_lt.mp c) rfl
      refine ⟨W, ?_⟩
      rw [z]
      refine mj_en_iff hW (fun v => ⟨fun h => ?_, fun h => ?_⟩)
      · obtain ⟨⟨j, hj, e⟩, h2⟩ := h
        rcases Nat.lt_or_eq_of_le (Nat.le_of_lt_succ hj) with y | y
        · exact ⟨⟨j, y, e⟩, h2⟩
        · rw [y] at e
          rw [← e] at h2
          exact absurd h2 c
      · obtain ⟨⟨j, hj, e⟩, h2⟩ := h
        exact ⟨⟨j, by omega, e⟩, h2⟩
/-! the ranges of the tree by themselves -/
theorem mj_T_R {K : Nat} {f nl nr fm fl fe vv vn : Nat → Int32} : ∀ (d a l r : Nat) (μ : Int32 → Int) (L c : Int32), mj_T K f nl nr fm fl fe vv vn d a l r μ L c → mj_R nl nr d a l r
  | 0, a, l, r, μ, L, c, h => by
    have b := mj_T_nd h
    exact ⟨b.1, b.2.1, h.1⟩
  | d + 1, a, l, r, μ, L, c, h => by
    have b := mj_T_nd h
    rcases h with ⟨h1, -⟩ | ⟨h1, -, μa, La, ca, μb, Lb, cb, ta, tb, -, -⟩
    · exact ⟨b.1, b.2.1, Or.inl h1⟩
    · exact ⟨b.1, b.2.1, Or.inr ⟨h1, mj_T_R d _ _ _ _ _ _ ta, mj_T_R d _ _ _ _ _ _ tb⟩⟩
theorem mj_R_hd {ff ft : Nat → Int32} {d a l r : Nat} (h : mj_R ff ft d a l r) : (ff a).toInt = (l : Int) ∧ (ft a).toInt = (r : Int) := by
  cases d with
  | zero => exact ⟨h.1, h.2.1⟩
  | succ d => exact ⟨h.1, h.2.1⟩
theorem mj_R_uni {ff ft nl nr : Nat → Int32} : ∀ (d d2 a l r : Nat), mj_R ff ft d a l r → mj_R nl nr d2 a l r → ∀ k : Nat, a ≤ k → k < a + 2 * (r - l) - 1 → (ff k).toInt = (nl k).toInt ∧ (ft k).toInt = (nr k).toInt
  | 0, d2, a, l, r, h, h2, k, h3, h4 => by
    have e : k = a := by have := h.2.2; omega
    subst e
    have x := mj_R_hd h
    have y := mj_R_hd h2
    omega
  | d + 1, 0, a, l, r, h, h2, k, h3, h4 => by
    have e : k = a := by have := h2.2.2; omega
    subst e
    have x := mj_R_hd h
    have y := mj_R_hd h2
    omega
  | d + 1, d2 + 1, a, l, r, h, h2, k, h3, h4 => by
    by_cases hk : k = a
    · subst hk
      have x := mj_R_hd h
      have y := mj_R_hd h2
      omega
    · rcases h.2.2 with q | ⟨q, ha, hb⟩
      · omega
      · rcases h2.2.2 with q2 | ⟨q2, ga, gb⟩
        · omega
        · rcases Nat.lt_or_ge k (a + 2 * ((l + r) / 2 - l)) with h9 | h9
          · exact mj_R_uni d d2 _ _ _ ha ga k (by omega) (by omega)
          · exact mj_R_uni d d2 _ _ _ hb gb k (by omega) (by omega)
theorem mj_R_lt {ff ft : Nat → Int32} {d n k : Nat} (h : mj_R ff ft d 0 0 n) (hn : 0 < n) (hk : k < 2 * n - 1) : (ff k).toInt < (ft k).toInt := by
  obtain ⟨e, l2, r2, h2, h3⟩ := mj_R_all d 0 0 n h hn k (Nat.zero_le k) (by omega)
  have x := mj_R_hd h2
  omega
/-- the summary of a range by K slots: the nodes inside it are right -/
def mj_LF (K : Nat) (f : Nat → Int32) (n l r : Int) (μ : Int32 → Int) : Prop := ∃ (ff ft fs fo fe uv un : Nat → Int32) (L : Int32) (d nd : Nat), nd = 2 * n.toNat - 1 ∧ mj_R ff ft d 0 0 n.toNat ∧ (∀ k : Nat, k < nd → l ≤ (ff k).toInt → (ft k).toInt ≤ r → mj_ok K f ff ft fs fo fe uv un k) ∧ mj_H K ff ft fs fo uv un l r (mj_pq ff ft l r nd) μ L
theorem mj_H_eqi {K : Nat} {ff ft fs fo uv un nl nr fm fl vv vn : Nat → Int32} {l r : Int} {nd : Nat} (hr : ∀ k : Nat, k < nd → (ff k).toInt = (nl k).toInt ∧ (ft k).toInt = (nr k).toInt) (hlt : ∀ k : Nat, k < nd → (ff k).toInt < (ft k).toInt) (h : ∀ k : Nat, k < nd → l ≤ (ff k).toInt → (ft k).toInt ≤ r → fs k = fm k ∧ fo k = fl k ∧ ∀ j : Nat, j < (fs k).toNatClampNeg → uv (6 * k + j) = vv (6 * k + j) ∧ un (6 * k + j) = vn (6 * k + j)) : ∀ (j : Nat) (μ : Int32 → Int) (L : Int32), j ≤ mj_pq ff ft l r nd → mj_H K ff ft fs fo uv un l r j μ L → mj_H K nl nr fm fl vv vn l r j μ L
  | 0, _, _, _, a => a
  | j + 1, μ, L, hj, a => by
    obtain ⟨k, μ0, L0, c, μk, a1, a2, a3, a4, a5, a6, a7, a8, a9⟩ := a
    obtain ⟨i, x1, x2, x3⟩ := mj_pq_at ff ft l r j nd (by omega)
    have e := mj_isp_uni a3 x2 (a4.trans x3.symm)
    subst e
    have lo := mj_pb_mono (l := l) (r := r) hlt 0 k (Nat.zero_le k) (by omega)
    have lo0 : mj_pb ff ft l r 0 = l := rfl
    have a31 : (ff k).toInt = mj_pb ff ft l r k := a3.1
    have a32 : (ft k).toInt ≤ r := a3.2
    obtain ⟨q3, q4, q6⟩ := h k x1 (by omega) a32
    obtain ⟨q1, q2⟩ := hr k x1
    obtain ⟨p1, p2⟩ := mj_pq_eqv (nd := (nd : Int)) (l := l) (r := r) (fun i hi => hr i (by omega)) k (by omega)
    refine ⟨k, μ0, L0, c, μk, a1, mj_H_eqi hr hlt h j μ0 L0 (by omega) a2, ?_, by rw [← p2]; exact a4, ?_, by rw [← q3]; exact a6, by rw [← q3]; exact a7, a8, by rw [← q4]; exact a9⟩
    · unfold mj_isp at a3 ⊢
      omega
    · rw [← q3]
      exact mj_vs_seg a5 (fun i hi => ⟨(q6 i hi).1.symm, (q6 i hi).2.symm⟩)
theorem mj_LF_uni {K : Nat} {f : Nat → Int32} {n l r : Int} {μ ν : Int32 → Int} (hn : 0 < n) (h : mj_LF K f n l r μ) (h2 : mj_LF K f n l r ν) : μ = ν := by
  obtain ⟨ff, ft, fs, fo, fe, uv, un, L, d, nd, e1, hR, ok, hH⟩ := h
  obtain ⟨nl, nr, fm, fl, fe2, vv, vn, L2, d2, nd2, e2, hR2, ok2, hH2⟩ := h2
  have e : nd2 = nd := by omega
  subst e
  have hr : ∀ k : Nat, k < nd2 → (ff k).toInt = (nl k).toInt ∧ (ft k).toInt = (nr k).toInt := fun k hk => mj_R_uni d d2 0 0 n.toNat hR hR2 k (Nat.zero_le k) (by omega)
  have hlt : ∀ k : Nat, k < nd2 → (ff k).toInt < (ft k).toInt := fun k hk => mj_R_lt hR (by omega) (by omega)
  have hin : ∀ k : Nat, k < nd2 → l ≤ (ff k).toInt → (ft k).toInt ≤ r → fs k = fm k ∧ fo k = fl k ∧ ∀ j : Nat, j < (fs k).toNatClampNeg → uv (6 * k + j) = vv (6 * k + j) ∧ un (6 * k + j) = vn (6 * k + j) := fun k hk x y => by
    obtain ⟨q1, q2⟩ := hr k hk
    obtain ⟨da, μa, La, ca, ta⟩ := ok k hk x y
    obtain ⟨db, μb, Lb, cb, tb⟩ := ok2 k hk (by omega) (by omega)
    have w1 : nl k = ff k := Int32.toInt_inj.mp q1.symm
    have w2 : nr k = ft k := Int32.toInt_inj.mp q2.symm
    rw [w1, w2] at tb
    have lt := mj_T_lt ta
    obtain ⟨-, -, z3, z4, -, z6⟩ := mj_T_same _ _ _ _ _ _ _ _ _ _ _ ta tb k (Nat.le_refl k) (by omega)
    exact ⟨z3, z4, z6⟩
  have a := mj_H_eqi hr hlt hin _ μ L (Nat.le_refl _) hH
  have pq := (mj_pq_eqv (nd := (nd2 : Int)) (l := l) (r := r) (fun i hi => hr i (by omega)) nd2 (by omega)).2
  rw [pq] at a
  exact (mj_H_uni _ μ ν L L2 a hH2).1
theorem mj_tog_sup {K : Nat} {μa μb μ : Int32 → Int} {c : Int32} (h : mj_tog K μa μb μ c) : ∃ V : Nat → Int32, ∀ v : Int32, ¬ μ v = 0 → ∃ j : Nat, j < K ∧ V j = v := by
  have c0 := mj_tog_nn h
  obtain ⟨V, N, m, hv, hs, hc, he⟩ := h
  refine ⟨V, fun v h => ?_⟩
  have e := he v
  by_cases q : c.toInt < μa v + μb v
  · obtain ⟨j, j1, j2⟩ := hv.2.2 v (show ¬ μa v + μb v = 0 by omega)
    rw [Nat.zero_add] at j2
    rcases hc with ⟨h1, -⟩ | ⟨h1, h2⟩
    · exact ⟨j, by omega, j2⟩
    · have w := hv.1 j j1
      rw [Nat.zero_add] at w
      have w1 : (N j).toInt = μa (V j) + μb (V j) := w.1
      rw [j2] at w1
      have h3 : c.toInt = (N K).toInt := by rw [h2]
      rcases Nat.lt_or_ge j K with y | y
      · exact ⟨j, y, j2⟩
      · exfalso
        rcases Nat.lt_or_eq_of_le y with z | z
        · have s := hs K j z j1
          rw [Nat.zero_add, Nat.zero_add] at s
          unfold mj_lea at s
          omega
        · rw [z] at h3
          omega
  · rw [if_neg q] at e
    exact absurd e h
theorem mj_H_sup {K : Nat} {nl nr fm fl vv vn : Nat → Int32} {l r : Int} {j : Nat} {μ : Int32 → Int} {L : Int32} (h : mj_H K nl nr fm fl vv vn l r j μ L) : ∃ V : Nat → Int32, ∀ v : Int32, ¬ μ v = 0 → ∃ j : Nat, j < K ∧ V j = v := by
  cases j with
  | zero =>
    obtain ⟨e, -⟩ := h
    exact ⟨fun _ => 0, fun v hv => absurd (show μ v = 0 by rw [e]; rfl) hv⟩
  | succ j =>
    obtain ⟨k, μ0, L0, c, μk, a1, a2, a3, a4, a5, a6, a7, a8, a9⟩ := h
    exact mj_tog_sup a8
/-- heavy in a range -/
def mj_hy (f : Nat → Int32) (l r p q : Int) (v : Int32) : Prop := p * (r - l) < (cnt f v l.toNat (r - l).toNat : Int) * q
def mj_yes (K : Nat) (f : Nat → Int32) (n l r p q : Int) : Prop := ∃ μ : Int32 → Int, mj_LF K f n l r μ ∧ ∀ v : Int32, mj_hy f l r p q v → ¬ μ v = 0
def mj_not (K : Nat) (f : Nat → Int32) (n l r p q : Int) : Prop := ∀ μ : Int32 → Int, mj_LF K f n l r μ → ¬ ∀ v : Int32, mj_hy f l r p q v → ¬ μ v = 0
theorem mj_not_few {K w : Nat} {f E : Nat → Int32} {n l r p q : Int} (h : mj_en E w (mj_hy f l r p q)) (hw : K < w) : mj_not K f n l r p q := fun μ hF ha => by
  obtain ⟨ff, ft, fs, fo, fe, uv, un, L, d, nd, -, -, -, hH⟩ := hF
  obtain ⟨W, hW⟩ := mj_H_sup hH
  have := mj_pig K w E W h.1 (fun i hi => hW _ (ha _ (h.2.1 i hi)))
  omega
theorem mj_dec_yes {K m w : Nat} {f V N E : Nat → Int32} {n l r p q : Int} {μ : Int32 → Int} (hF : mj_LF K f n l r μ) (hv : mj_vs V N 0 m μ) (hE : mj_en E w (mj_hy f l r p q)) (hk : mj_hk p q (r - l) V (fun v => (cnt f v l.toNat (r - l).toNat : Int)) m = w) : mj_yes K f n l r p q := by
  obtain ⟨W, hW⟩ := mj_en_hk (p := p) (q := q) (n := r - l) (V := V) (g := fun v => (cnt f v l.toNat (r - l).toNat : Int)) m (fun i j hi hj e => hv.2.1 i j hi hj (by rw [Nat.zero_add, Nat.zero_add]; exact e))
  have s := mj_en_sub hW hE (fun v h => h.2)
  refine ⟨μ, hF, fun v h0 z => ?_⟩
  obtain ⟨⟨j, j1, j2⟩, -⟩ := s.2 hk v h0
  have y := (hv.1 j j1).2
  rw [Nat.zero_add, j2, z] at y
  exact absurd y (Int.lt_irrefl 0)
theorem mj_dec_not {K m w : Nat} {f V N E : Nat → Int32} {n l r p q : Int} {μ : Int32 → Int} (hn : 0 < n) (hF : mj_LF K f n l r μ) (hv : mj_vs V N 0 m μ) (hE : mj_en E w (mj_hy f l r p q)) (hk : ¬ mj_hk p q (r - l) V (fun v => (cnt f v l.toNat (r - l).toNat : Int)) m = w) : mj_not K f n l r p q := fun ν hG ha => by
  have e := mj_LF_uni hn hF hG
  subst e
  obtain ⟨W, hW⟩ := mj_en_hk (p := p) (q := q) (n := r - l) (V := V) (g := fun v => (cnt f v l.toNat (r - l).toNat : Int)) m (fun i j hi hj e => hv.2.1 i j hi hj (by rw [Nat.zero_add, Nat.zero_add]; exact e))
  have s := mj_en_sub hW hE (fun v h => h.2)
  have s2 := mj_en_sub hE hW (fun v h => ⟨by
    obtain ⟨j, j1, j2⟩ := hv.2.2 v (ha v h)
    rw [Nat.zero_add] at j2
    exact ⟨j, j1, j2⟩, h⟩)
  have s1 := s.1
  have s3 := s2.1
  omega
/-- the least number of slots, looked for below k -/
def mj_lsk (f : Nat → Int32) (n l r p q : Int) (k : Nat) (x : Int32) : Prop := (∃ j : Nat, 1 ≤ j ∧ j < k ∧ j ≤ 6 ∧ mj_yes j f n l r p q ∧ (∀ i : Nat, 1 ≤ i → i < j → mj_not i f n l r p q) ∧ x.toInt = (j : Int)) ∨ ((∀ i : Nat, 1 ≤ i → i < k → mj_not i f n l r p q) ∧ x = -2)
theorem mj_lsk_0 {f : Nat → Int32} {n l r p q : Int} {k : Nat} (hk : k = 1) : mj_lsk f n l r p q k (-2) := Or.inr ⟨fun i h1 h2 => absurd h1 (by omega), rfl⟩
theorem mj_lsk_no {f : Nat → Int32} {n l r p q : Int} {k k2 : Nat} {x : Int32} (h : mj_lsk f n l r p q k x) (hx : x = -2) (hn : mj_not k f n l r p q) (e : k2 = k + 1) : mj_lsk f n l r p q k2 x := by
  subst e
  rcases h with ⟨j, h1, h2, h3, h4, h5, h6⟩ | ⟨h1, h2⟩
  · exact Or.inl ⟨j, h1, by omega, h3, h4, h5, h6⟩
  · refine Or.inr ⟨fun i a b => ?_, h2⟩
    rcases Nat.lt_or_eq_of_le (Nat.le_of_lt_succ b) with y | y
    · exact h1 i a y
    · rw [y]
      exact hn
theorem mj_lsk_yes {f : Nat → Int32} {n l r p q : Int} {k k2 : Nat} {x y : Int32} (h : mj_lsk f n l r p q k x) (hx : x = -2) (hy : mj_yes k f n l r p q) (k1 : 1 ≤ k) (k6 : k ≤ 6) (e : k2 = k + 1) (ey : y.toInt = (k : Int)) : mj_lsk f n l r p q k2 y := by
  subst e
  rcases h with ⟨j, h1, h2, h3, h4, h5, h6⟩ | ⟨h1, h2⟩
  · rw [hx, show (-2 : Int32).toInt = -2 from rfl] at h6
    omega
  · exact Or.inl ⟨k, k1, by omega, k6, hy, h1, ey⟩
theorem mj_lsk_up {f : Nat → Int32} {n l r p q : Int} {k : Nat} {x : Int32} (h : mj_lsk f n l r p q k x) (hk : k ≤ 7) (he : k = 7 ∨ ¬ x = -2) : mj_lsk f n l r p q 7 x := by
  rcases he with e | e
  · rw [← e]
    exact h
  · rcases h with ⟨j, h1, h2, h3, h4, h5, h6⟩ | ⟨h1, h2⟩
    · exact Or.inl ⟨j, h1, by omega, h3, h4, h5, h6⟩
    · exact absurd h2 e
theorem mj_lsk_uni {f : Nat → Int32} {n l r p q : Int} {x y : Int32} (h : mj_lsk f n l r p q 7 x) (g : mj_lsk f n l r p q 7 y) : x = y := by
  have yn : ∀ k : Nat, mj_yes k f n l r p q → mj_not k f n l r p q → False := fun k a b => by
    obtain ⟨μ, a1, a2⟩ := a
    exact b μ a1 a2
  rcases h with ⟨j, h1, h2, h3, h4, h5, h6⟩ | ⟨h1, h2⟩ <;> rcases g with ⟨i, g1, g2, g3, g4, g5, g6⟩ | ⟨g1, g2⟩
  · rcases Nat.lt_trichotomy i j with z | z | z
    · exact absurd (h5 i g1 z) (yn i g4)
    · exact Int32.toInt_inj.mp (by omega)
    · exact absurd (g5 j h1 z) (yn j h4)
  · exact absurd (g1 j h1 h2) (yn j h4)
  · exact absurd (h1 i g1 g2) (yn i g4)
  · rw [h2, g2]
/-- the first occurrence -/
theorem mj_hy_far {f : Nat → Int32} {l r p q : Int} {v : Int32} (hp : 0 ≤ p) (hlr : l ≤ r) (h : mj_hy f l r p q v) (hq : 0 ≤ q) : 0 < cnt f v l.toNat (r - l).toNat := by
  unfold mj_hy at h
  have a : 0 ≤ p * (r - l) := Int.mul_nonneg hp (by omega)
  have b := ki_mulpos (z := p * (r - l)) (a := (cnt f v l.toNat (r - l).toNat : Int)) (b := q) h a (by omega)
  omega
/-- the heavy ones met so far, by the first place of each -/
def mj_hm3 (f : Nat → Int32) (l r p q : Int) (i m : Nat) : Prop := ∃ E : Nat → Int32, mj_en E m (fun v => 0 < cnt f v l.toNat (i - l.toNat) ∧ mj_hy f l r p q v)
theorem mj_hm3_0 {f : Nat → Int32} {l r p q : Int} {i m : Nat} (hm : m = 0) (hi : i = l.toNat) : mj_hm3 f l r p q i m := by
  subst hi
  refine ⟨fun _ => 0, mj_en_0 hm (fun v h => ?_)⟩
  obtain ⟨h1, -⟩ := h
  rw [Nat.sub_self] at h1
  exact absurd h1 (Nat.lt_irrefl 0)
theorem mj_hm3_st {f : Nat → Int32} {a i : Nat} (hi : a ≤ i) (v : Int32) : cnt f v a (i + 1 - a) = cnt f v a (i - a) + (if f i = v then 1 else 0) := by
  rw [show i + 1 - a = i - a + 1 by omega]
  simp only [cnt]
  rw [show a + (i - a) = i by omega]
theorem mj_hm3_new {f : Nat → Int32} {l r p q : Int} {i i2 m m2 : Nat} (h : mj_hm3 f l r p q i m) (hi : l.toNat ≤ i) (h0 : cnt f (f i) l.toNat (i - l.toNat) = 0) (hv : mj_hy f l r p q (f i)) (e : i2 = i + 1) (em : m2 = m + 1) : mj_hm3 f l r p q i2 m2 := by
  subst e
  obtain ⟨E, hE⟩ := h
  refine ⟨upd E m (f i), mj_en_new hE (fun h => ?_) (fun v => ⟨fun h => ?_, fun h => ?_⟩) em⟩
  · obtain ⟨h1, -⟩ := h
    omega
  · obtain ⟨h1, h2⟩ := h
    by_cases c : v = f i
    · exact Or.inr c
    · have s := mj_hm3_st (f := f) hi v
      rw [if_neg (fun z => c z.symm)] at s
      exact Or.inl ⟨by omega, h2⟩
  · rcases h with h | h
    · obtain ⟨h1, h2⟩ := h
      have s := mj_hm3_st (f := f) hi v
      exact ⟨by omega, h2⟩
    · have s := mj_hm3_st (f := f) hi (f i)
      rw [if_pos rfl] at s
      rw [h]
      exact ⟨by omega, hv⟩
theorem mj_hm3_old {f : Nat → Int32} {l r p q : Int} {i i2 m : Nat} (h : mj_hm3 f l r p q i m) (hi : l.toNat ≤ i) (h0 : 0 < cnt f (f i) l.toNat (i - l.toNat) ∨ ¬ mj_hy f l r p q (f i)) (e : i2 = i + 1) : mj_hm3 f l r p q i2 m := by
  subst e
  obtain ⟨E, hE⟩ := h
  refine ⟨E, mj_en_iff hE (fun v => ⟨fun h => ?_, fun h => ?_⟩)⟩
  · obtain ⟨h1, h2⟩ := h
    refine ⟨?_, h2⟩
    by_cases c : f i = v
    · rcases h0 with h0 | h0
      · rw [c] at h0
        exact h0
      · rw [c] at h0
        exact absurd h2 h0
    · have s := mj_hm3_st (f := f) hi v
      rw [if_neg c] at s
      omega
  · obtain ⟨h1, h2⟩ := h
    have s := mj_hm3_st (f := f) hi v
    exact ⟨by omega, h2⟩
theorem mj_hm3_end {f : Nat → Int32} {l r p q : Int} {i m : Nat} (h : mj_hm3 f l r p q i m) (hi : i = r.toNat) (hl : 0 ≤ l) (hlr : l ≤ r) (hp : 0 ≤ p) (hq : 0 ≤ q) : ∃ E : Nat → Int32, mj_en E m (mj_hy f l r p q) := by
  obtain ⟨E, hE⟩ := h
  refine ⟨E, mj_en_iff hE (fun v => ⟨fun h => ⟨?_, h⟩, fun h => h.2⟩)⟩
  have a := mj_hy_far hp hlr h hq
  rw [show i - l.toNat = (r - l).toNat by omega]
  exact a
/-- how many heavy ones are among the votes by K slots -/
def mj_LV (K : Nat) (f : Nat → Int32) (n l r p q : Int) (x : Int32) : Prop := ∃ (μ : Int32 → Int) (V N : Nat → Int32) (m : Nat), mj_LF K f n l r μ ∧ mj_vs V N 0 m μ ∧ x.toInt = (mj_hk p q (r - l) V (fun v => (cnt f v l.toNat (r - l).toNat : Int)) m : Int)
theorem mj_LV_yes {K w : Nat} {f E : Nat → Int32} {n l r p q : Int} {x : Int32} (h : mj_LV K f n l r p q x) (hE : mj_en E w (mj_hy f l r p q)) (hx : x.toInt = (w : Int)) : mj_yes K f n l r p q := by
  obtain ⟨μ, V, N, m, h1, h2, h3⟩ := h
  exact mj_dec_yes h1 h2 hE (by omega)
theorem mj_LV_not {K w : Nat} {f E : Nat → Int32} {n l r p q : Int} {x : Int32} (hn : 0 < n) (h : mj_LV K f n l r p q x) (hE : mj_en E w (mj_hy f l r p q)) (hx : ¬ x.toInt = (w : Int)) : mj_not K f n l r p q := by
  obtain ⟨μ, V, N, m, h1, h2, h3⟩ := h
  exact mj_dec_not hn h1 h2 hE (fun z => hx (by omega))
theorem mj_C_R {K : Nat} {f ff ft fs fo fe uv un : Nat → Int32} {nd n : Int} (h : mj_C K f ff ft fs fo fe uv un nd n) (hn : 0 < n) : ∃ d : Nat, mj_R ff ft d 0 0 n.toNat := by
  obtain ⟨a1, a2, a3, a4, a5, a6, a7⟩ := h
  obtain ⟨d, μ, L, c, t⟩ := a7 0 (by omega)
  obtain ⟨r1, r2⟩ := a6 hn
  have n1 := ki_nat (ff 0) rfl (by omega)
  have n2 := ki_nat (ft 0) rfl (by omega)
  rw [show (ff 0).toNatClampNeg = 0 by omega, show (ft 0).toNatClampNeg = n.toNat by omega] at t
  exact ⟨d, mj_T_R _ _ _ _ _ _ _ t⟩
theorem mj_L_LF {K : Nat} {f nl nr fm fl fe vv vn : Nat → Int32} {n nd l r : Int} {μ : Int32 → Int} {L : Int32} (h : mj_L K f nl nr fm fl fe vv vn n nd) (hn : 0 < n) (hH : mj_H K nl nr fm fl vv vn l r (mj_pq nl nr l r nd.toNat) μ L) : mj_LF K f n l r μ := by
  rcases h with ⟨h1, h2⟩ | ⟨h1, h2, μ0, L0, c0, t⟩
  · omega
  · refine ⟨nl, nr, fm, fl, fe, vv, vn, L, 8, nd.toNat, by omega, mj_T_R _ _ _ _ _ _ _ t, fun k hk _ _ => ?_, hH⟩
    obtain ⟨e, l2, r2, μ2, L2, c2, x1, x2, x3, x4⟩ := mj_T_all _ _ _ _ _ _ _ t k (Nat.zero_le k) (by omega)
    have b := mj_T_nd x4
    have b1 := b.1
    have b2 := b.2.1
    have n1 := ki_nat (nl k) rfl (by omega)
    have n2 := ki_nat (nr k) rfl (by omega)
    refine ⟨e, μ2, L2, c2, ?_⟩
    rw [show (nl k).toNatClampNeg = l2 by omega, show (nr k).toNatClampNeg = r2 by omega]
    exact x4
theorem mj_hvm_en {f V N : Nat → Int32} {l r p q : Int} {m : Nat} (h : mj_vs V N 0 m (mj_hvm p q (r - l) (fun v => (cnt f v l.toNat (r - l).toNat : Int)))) (hlr : l ≤ r) (hp : 0 ≤ p) (hq : 0 ≤ q) : mj_en V m (mj_hy f l r p q) := by
  refine ⟨fun i j hi hj e => h.2.1 i j hi hj (by rw [Nat.zero_add, Nat.zero_add]; exact e), fun j hj => ?_, fun v hv => ?_⟩
  · have a := (h.1 j hj).2
    rw [Nat.zero_add] at a
    unfold mj_hvm at a
    unfold mj_hy
    by_cases c : p * (r - l) < (cnt f (V j) l.toNat (r - l).toNat : Int) * q
    · exact c
    · rw [if_neg c] at a
      exact absurd a (Int.lt_irrefl 0)
  · have a := mj_hy_far hp hlr hv hq
    obtain ⟨j, j1, j2⟩ := h.2.2 v (fun z => by
      unfold mj_hvm at z
      unfold mj_hy at hv
      rw [if_pos hv] at z
      have z2 : (cnt f v l.toNat (r - l).toNat : Int) = 0 := z
      omega)
    rw [Nat.zero_add] at j2
    exact ⟨j, j1, j2⟩
def mj_msx (μ : Int32 → Int) (V : Nat → Int32) (w : Nat) : Prop := ∃ i : Nat, i < w ∧ μ (V i) = 0
theorem mj_yes_of {K w : Nat} {f E : Nat → Int32} {n l r p q : Int} {μ : Int32 → Int} (hF : mj_LF K f n l r μ) (hE : mj_en E w (mj_hy f l r p q)) (h : ∀ i : Nat, i < w → ¬ μ (E i) = 0) : mj_yes K f n l r p q := ⟨μ, hF, fun v hv => by
  obtain ⟨i, i1, i2⟩ := hE.2.2 v hv
  rw [← i2]
  exact h i i1⟩
theorem mj_not_of {K w : Nat} {f E : Nat → Int32} {n l r p q : Int} {μ : Int32 → Int} (hn : 0 < n) (hF : mj_LF K f n l r μ) (hE : mj_en E w (mj_hy f l r p q)) (h : mj_msx μ E w) : mj_not K f n l r p q := fun ν hG ha => by
  have e := mj_LF_uni hn hF hG
  subst e
  obtain ⟨i, i1, i2⟩ := h
  exact ha _ (hE.2.1 i i1) i2
theorem mj_nb_at {V N : Nat → Int32} {v : Int32} : ∀ (m s : Nat), (∃ j : Nat, j < m ∧ V (s + j) = v ∧ mj_nb V N v s m = N (s + j)) ∨ ((∀ j : Nat, j < m → ¬ V (s + j) = v) ∧ mj_nb V N v s m = 0)
  | 0, s => Or.inr ⟨fun j h => absurd h (Nat.not_lt_zero j), rfl⟩
  | m + 1, s => by
    by_cases c : V s = v
    · exact Or.inl ⟨0, by omega, c, mj_nb_hit c rfl⟩
    · have z : mj_nb V N v s (m + 1) = mj_nb V N v (s + 1) m := mj_nb_miss c rfl
      rw [z]
      rcases mj_nb_at (V := V) (N := N) (v := v) m (s + 1) with ⟨j, h1, h2, h3⟩ | ⟨h1, h2⟩
      · refine Or.inl ⟨j + 1, by omega, ?_, ?_⟩
        · rw [show s + (j + 1) = s + 1 + j by omega]
          exact h2
        · rw [show s + (j + 1) = s + 1 + j by omega]
          exact h3
      · refine Or.inr ⟨fun j hj => ?_, h2⟩
        cases j with
        | zero => exact c
        | succ j =>
          rw [show s + (j + 1) = s + 1 + j by omega]
          exact h1 j (by omega)
theorem mj_nb_mu {V N : Nat → Int32} {o m : Nat} {μ : Int32 → Int} (h : mj_vs V N o m μ) (v : Int32) : (mj_nb V N v o m).toInt = μ v := by
  rcases mj_nb_at (V := V) (N := N) (v := v) m o with ⟨j, a, b, c⟩ | ⟨a, b⟩
  · rw [c, (h.1 j a).1, b]
  · rw [b]
    by_cases z : μ v = 0
    · rw [z]
      rfl
    · obtain ⟨j, j1, j2⟩ := h.2.2 v z
      exact absurd j2 (a j j1)


