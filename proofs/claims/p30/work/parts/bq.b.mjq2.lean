/-! put in at its place; the heavy ones in order -/
def mj_ins (V : Nat → Int32) (a : Nat) (v : Int32) : Nat → Int32 := fun j => if j < a then V j else if j = a then v else V (j - 1)
theorem mj_ins_lt {V : Nat → Int32} {a j : Nat} {v : Int32} (h : j < a) : mj_ins V a v j = V j := if_pos h
theorem mj_ins_at {V : Nat → Int32} {a : Nat} {v : Int32} : mj_ins V a v a = v := by
  unfold mj_ins
  rw [if_neg (Nat.lt_irrefl a), if_pos rfl]
theorem mj_ins_gt {V : Nat → Int32} {a j : Nat} {v : Int32} (h : a < j) : mj_ins V a v j = V (j - 1) := by
  unfold mj_ins
  rw [if_neg (show ¬ j < a by omega), if_neg (show ¬ j = a by omega)]
theorem mj_vs_ins {V N : Nat → Int32} {m a : Nat} {μ : Int32 → Int} {v n : Int32} (h : mj_vs V N 0 m μ) (hv : ∀ k : Nat, k < m → ¬ V k = v) (hn : 0 < n.toInt) (ha : a ≤ m) : mj_vs (mj_ins V a v) (mj_ins N a n) 0 (m + 1) (fun w => μ w + (if w = v then n.toInt else 0)) := by
  have mu0 : μ v = 0 := by
    by_cases c : μ v = 0
    · exact c
    · obtain ⟨j, j1, j2⟩ := h.2.2 v c
      rw [Nat.zero_add] at j2
      exact absurd j2 (hv j j1)
  have inj : ∀ x y : Nat, x < m → y < m → V x = V y → x = y := fun x y hx hy z => h.2.1 x y hx hy (by rw [Nat.zero_add, Nat.zero_add]; exact z)
  have own : ∀ k : Nat, k < m → (N k).toInt = μ (V k) + (if V k = v then n.toInt else 0) ∧ 0 < μ (V k) + (if V k = v then n.toInt else 0) := fun k hk => by
    rw [if_neg (hv k hk), Int.add_zero]
    have z := h.1 k hk
    rw [Nat.zero_add] at z
    exact z
  refine ⟨fun j hj => ?_, fun i j hi hj e => ?_, fun w hw => ?_⟩
  · rw [Nat.zero_add]
    rcases Nat.lt_trichotomy j a with q | q | q
    · rw [mj_ins_lt q, mj_ins_lt q]
      exact own j (by omega)
    · rw [q, mj_ins_at, mj_ins_at]
      show n.toInt = μ v + (if v = v then n.toInt else 0) ∧ 0 < μ v + (if v = v then n.toInt else 0)
      rw [if_pos rfl, mu0, Int.zero_add]
      exact ⟨rfl, hn⟩
    · rw [mj_ins_gt q, mj_ins_gt q]
      exact own (j - 1) (by omega)
  · rw [Nat.zero_add, Nat.zero_add] at e
    rcases Nat.lt_trichotomy i a with q | q | q
    · rw [mj_ins_lt q] at e
      rcases Nat.lt_trichotomy j a with u | u | u
      · rw [mj_ins_lt u] at e
        exact inj i j (by omega) (by omega) e
      · rw [u, mj_ins_at] at e
        exact absurd e (hv i (by omega))
      · rw [mj_ins_gt u] at e
        have z := inj i (j - 1) (by omega) (by omega) e
        omega
    · rw [q, mj_ins_at] at e
      rcases Nat.lt_trichotomy j a with u | u | u
      · rw [mj_ins_lt u] at e
        exact absurd e.symm (hv j (by omega))
      · omega
      · rw [mj_ins_gt u] at e
        exact absurd e.symm (hv (j - 1) (by omega))
    · rw [mj_ins_gt q] at e
      rcases Nat.lt_trichotomy j a with u | u | u
      · rw [mj_ins_lt u] at e
        have z := inj (i - 1) j (by omega) (by omega) e
        omega
      · rw [u, mj_ins_at] at e
        exact absurd e (hv (i - 1) (by omega))
      · rw [mj_ins_gt u] at e
        have z := inj (i - 1) (j - 1) (by omega) (by omega) e
        omega
  · by_cases c : w = v
    · exact ⟨a, by omega, by rw [Nat.zero_add, mj_ins_at, c]⟩
    · have hw2 : ¬ μ w = 0 := fun z => hw (show μ w + (if w = v then n.toInt else 0) = 0 by rw [z, if_neg c, Int.add_zero])
      obtain ⟨j, j1, j2⟩ := h.2.2 w hw2
      rw [Nat.zero_add] at j2
      rcases Nat.lt_or_ge j a with q | q
      · exact ⟨j, by omega, by rw [Nat.zero_add, mj_ins_lt q]; exact j2⟩
      · exact ⟨j + 1, by omega, by rw [Nat.zero_add, mj_ins_gt (show a < j + 1 by omega), Nat.add_sub_cancel]; exact j2⟩
theorem mj_srt_ins {V N : Nat → Int32} {m a : Nat} {v n : Int32} (h : mj_srt V N 0 m) (ha : a ≤ m) (h1 : ∀ j : Nat, j < a → n.toInt < (N j).toInt ∨ ((N j).toInt = n.toInt ∧ (V j).toInt ≤ v.toInt)) (h2 : ∀ j : Nat, a ≤ j → j < m → (N j).toInt < n.toInt ∨ (n.toInt = (N j).toInt ∧ v.toInt ≤ (V j).toInt)) : mj_srt (mj_ins V a v) (mj_ins N a n) 0 (m + 1) := by
  have old : ∀ x y : Nat, x < y → y < m → (N y).toInt < (N x).toInt ∨ ((N x).toInt = (N y).toInt ∧ (V x).toInt ≤ (V y).toInt) := fun x y hx hy => by
    have z := h x y hx hy
    rw [Nat.zero_add, Nat.zero_add] at z
    exact z
  intro i j hij hj
  rw [Nat.zero_add, Nat.zero_add]
  unfold mj_lea
  rcases Nat.lt_trichotomy j a with q | q | q
  · rw [mj_ins_lt q, mj_ins_lt q, mj_ins_lt (show i < a by omega), mj_ins_lt (show i < a by omega)]
    exact old i j hij (by omega)
  · rw [q, mj_ins_at, mj_ins_at, mj_ins_lt (show i < a by omega), mj_ins_lt (show i < a by omega)]
    exact h1 i (by omega)
  · rw [mj_ins_gt q, mj_ins_gt q]
    rcases Nat.lt_trichotomy i a with u | u | u
    · rw [mj_ins_lt u, mj_ins_lt u]
      exact old i (j - 1) (by omega) (by omega)
    · rw [u, mj_ins_at, mj_ins_at]
      exact h2 (j - 1) (by omega) (by omega)
    · rw [mj_ins_gt u, mj_ins_gt u]
      exact old (i - 1) (j - 1) (by omega) (by omega)
/-- moved up by one from a on -/
def mj_sh (z w : Nat → Int32) (a m : Nat) : Prop := (∀ j : Nat, j < a → w j = z j) ∧ ∀ j : Nat, a < j → j ≤ m → w j = z (j - 1)
theorem mj_sh_0 (z : Nat → Int32) {a m : Nat} (h : m ≤ a) : mj_sh z z a m := ⟨fun j _ => rfl, fun j h1 h2 => by omega⟩
theorem mj_sh_step {z w : Nat → Int32} {a a2 m : Nat} {x : Int32} (h : mj_sh z w a m) (ea : a = a2 + 1) (ex : x = w a2) : mj_sh z (upd w a x) a2 m := by
  subst ea
  refine ⟨fun j hj => ?_, fun j h1 h2 => ?_⟩
  · rw [upd_ne (show ¬ j = a2 + 1 by omega)]
    exact h.1 j (by omega)
  · by_cases e : j = a2 + 1
    · rw [e, upd_at, ex, Nat.add_sub_cancel]
      exact h.1 a2 (by omega)
    · rw [upd_ne e]
      exact h.2 j (by omega) h2
theorem mj_sh_ins {z w : Nat → Int32} {a m : Nat} {x : Int32} (h : mj_sh z w a m) (j : Nat) (hj : j < m + 1) : upd w a x j = mj_ins z a x j := by
  rcases Nat.lt_trichotomy j a with q | q | q
  · rw [mj_ins_lt q, upd_ne (show ¬ j = a by omega)]
    exact h.1 j q
  · rw [q, mj_ins_at, upd_at]
  · rw [mj_ins_gt q, upd_ne (show ¬ j = a by omega)]
    exact h.2 j q (by omega)
def mj_hvm (p q n : Int) (g : Int32 → Int) : Int32 → Int := fun v => if p * n < g v * q then g v else 0
theorem mj_hp_in {p q n : Int} {V : Nat → Int32} {g : Int32 → Int} {v : Int32} : ∀ (m : Nat), (∀ a b : Nat, a < m → b < m → V a = V b → a = b) → (∃ j : Nat, j < m ∧ V j = v) → p * n < g v * q → mj_hp p q n V g m v = g v
  | 0, _, ⟨j, hj, _⟩, _ => absurd hj (Nat.not_lt_zero j)
  | m + 1, hd, ⟨j, hj, e⟩, hv => by
    simp only [mj_hp]
    by_cases c : V m = v
    · have z : mj_hp p q n V g m v = 0 := by
        by_cases y : mj_hp p q n V g m v = 0
        · exact y
        · obtain ⟨k, k1, k2⟩ := mj_hp_supp m v y
          have := hd k m (by omega) (by omega) (k2.trans c.symm)
          omega
      rw [z, if_pos (And.intro c hv), Int.zero_add]
    · have jm : j < m := by
        rcases Nat.lt_or_eq_of_le (Nat.le_of_lt_succ hj) with y | y
        · exact y
        · rw [y] at e
          exact absurd e c
      rw [if_neg (show ¬ (V m = v ∧ p * n < g v * q) from fun y => c y.1), Int.add_zero]
      exact mj_hp_in m (fun a b ha hb => hd a b (by omega) (by omega)) ⟨j, jm, e⟩ hv
theorem mj_hp_out {p q n : Int} {V : Nat → Int32} {g : Int32 → Int} {v : Int32} (h : ¬ p * n < g v * q) : ∀ (m : Nat), mj_hp p q n V g m v = 0
  | 0 => rfl
  | m + 1 => by
    simp only [mj_hp]
    rw [if_neg (show ¬ (V m = v ∧ p * n < g v * q) from fun y => h y.2), Int.add_zero]
    exact mj_hp_out h m
theorem mj_hp_hvm {p q n : Int} {V : Nat → Int32} {g : Int32 → Int} {m : Nat} (hd : ∀ a b : Nat, a < m → b < m → V a = V b → a = b) (hin : ∀ v : Int32, p * n < g v * q → ∃ j : Nat, j < m ∧ V j = v) (v : Int32) : mj_hp p q n V g m v = mj_hvm p q n g v := by
  unfold mj_hvm
  by_cases c : p * n < g v * q
  · rw [if_pos c]
    exact mj_hp_in m hd (hin v c) c
  · rw [if_neg c]
    exact mj_hp_out c m
/-- the heavy ones met so far -/
def mj_hm2 (p q n : Int) (g : Int32 → Int) (M : Int32 → Nat) : Int32 → Int := fun v => if 0 < M v ∧ p * n < g v * q then g v else 0
theorem mj_hm2_new {p q n : Int} {g : Int32 → Int} {M M2 : Int32 → Nat} {x : Int32} {o : Int} (hM : ∀ v : Int32, M2 v = M v + (if x = v then 1 else 0)) (h0 : M x = 0) (hv : p * n < g x * q) (ho : o = g x) (v : Int32) : mj_hm2 p q n g M v + (if v = x then o else 0) = mj_hm2 p q n g M2 v := by
  unfold mj_hm2
  have e := hM v
  by_cases c : v = x
  · rw [c] at e ⊢
    rw [if_pos rfl] at e
    rw [if_neg (show ¬ (0 < M x ∧ p * n < g x * q) from fun z => by have := z.1; omega), if_pos (rfl : x = x), if_pos (show 0 < M2 x ∧ p * n < g x * q from ⟨by omega, hv⟩), Int.zero_add, ho]
  · rw [if_neg (show ¬ x = v from fun z => c z.symm)] at e
    rw [if_neg c, Int.add_zero, show M2 v = M v by omega]
theorem mj_hm2_old {p q n : Int} {g : Int32 → Int} {M M2 : Int32 → Nat} {x : Int32} (hM : ∀ v : Int32, M2 v = M v + (if x = v then 1 else 0)) (h : 0 < M x ∨ g x * q ≤ p * n) (v : Int32) : mj_hm2 p q n g M v = mj_hm2 p q n g M2 v := by
  unfold mj_hm2
  have e := hM v
  by_cases c : x = v
  · rw [if_pos c] at e
    rw [c] at h
    rcases h with h | h
    · by_cases y : p * n < g v * q
      · rw [if_pos (And.intro h y), if_pos (show 0 < M2 v ∧ p * n < g v * q from ⟨by omega, y⟩)]
      · rw [if_neg (show ¬ (0 < M v ∧ p * n < g v * q) from fun z => y z.2), if_neg (show ¬ (0 < M2 v ∧ p * n < g v * q) from fun z => y z.2)]
    · have y : ¬ p * n < g v * q := by omega
      rw [if_neg (show ¬ (0 < M v ∧ p * n < g v * q) from fun z => y z.2), if_neg (show ¬ (0 < M2 v ∧ p * n < g v * q) from fun z => y z.2)]
  · rw [if_neg c] at e
    rw [show M2 v = M v by omega]
theorem mj_hm2_all {p q n : Int} {g : Int32 → Int} {M : Int32 → Nat} (hg : ∀ v : Int32, 0 < g v → 0 < M v) (hpn : 0 ≤ p * n) (hg0 : ∀ v : Int32, 0 ≤ g v) (v : Int32) : mj_hm2 p q n g M v = mj_hvm p q n g v := by
  unfold mj_hm2 mj_hvm
  by_cases y : p * n < g v * q
  · have z := ki_mulpos (z := p * n) y hpn (hg0 v)
    rw [if_pos (And.intro (hg v z) y), if_pos y]
  · rw [if_neg (show ¬ (0 < M v ∧ p * n < g v * q) from fun z => y z.2), if_neg y]
theorem mj_hm2_M {p q n : Int} {g : Int32 → Int} {M M2 : Int32 → Nat} (h : ∀ v : Int32, M v = M2 v) (v : Int32) : mj_hm2 p q n g M v = mj_hm2 p q n g M2 v := by
  unfold mj_hm2
  rw [h v]
theorem mj_hvm_eq {p q n n2 : Int} {g g2 : Int32 → Int} (hn : n = n2) (hg : ∀ v : Int32, g v = g2 v) (v : Int32) : mj_hvm p q n g v = mj_hvm p q n2 g2 v := by
  subst hn
  unfold mj_hvm
  rw [hg v]
theorem mj_hv_0 {p q n : Int} {g : Int32 → Int} {M : Int32 → Nat} {V N : Nat → Int32} {m : Nat} (hm : m = 0) (h : ∀ v : Int32, M v = 0) : mj_vs V N 0 m (mj_hm2 p q n g M) := by
  subst hm
  refine mj_vs_congr (mj_vs_zero _ _ _) (fun v => ?_)
  unfold mj_hm2
  rw [if_neg (show ¬ (0 < M v ∧ p * n < g v * q) from fun z => by have := z.1; have := h v; omega)]
theorem mj_srt_le {V N : Nat → Int32} {m a t : Nat} {v n : Int32} (h : mj_srt V N 0 m) (ha : a ≤ m) (et : a = t + 1) (hb : n.toInt < (N t).toInt ∨ ((N t).toInt = n.toInt ∧ (V t).toInt ≤ v.toInt)) (j : Nat) (hj : j < a) : n.toInt < (N j).toInt ∨ ((N j).toInt = n.toInt ∧ (V j).toInt ≤ v.toInt) := by
  rcases Nat.lt_or_eq_of_le (show j ≤ t by omega) with q | q
  · have z := h j t q (by omega)
    rw [Nat.zero_add, Nat.zero_add] at z
    unfold mj_lea at z
    omega
  · rw [q]
    exact hb


