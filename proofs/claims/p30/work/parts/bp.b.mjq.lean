/-! sums over all values; what the votes promise -/
def mj_code (i : Nat) : Int32 := Int32.ofInt ((i : Int) - 32768)
def mj_su (d : Int32 → Int) : Nat → Int
  | 0 => 0
  | i + 1 => mj_su d i + d (mj_code i)
theorem mj_su_add (a b : Int32 → Int) : ∀ n : Nat, mj_su (fun v => a v + b v) n = mj_su a n + mj_su b n
  | 0 => rfl
  | n + 1 => by
    have ih := mj_su_add a b n
    simp only [mj_su]
    omega
theorem mj_su_nn {d : Int32 → Int} (h : ∀ v : Int32, 0 ≤ d v) : ∀ n : Nat, 0 ≤ mj_su d n
  | 0 => Int.le_refl 0
  | n + 1 => by
    have a := mj_su_nn h n
    have b := h (mj_code n)
    simp only [mj_su]
    omega
theorem mj_su_congr {a b : Int32 → Int} (h : ∀ v : Int32, a v = b v) (n : Nat) : mj_su a n = mj_su b n := by rw [show a = b from funext h]
theorem mj_su_z : ∀ n : Nat, mj_su mj_z n = 0
  | 0 => rfl
  | n + 1 => by
    have ih := mj_su_z n
    have e : mj_z (mj_code n) = 0 := rfl
    simp only [mj_su]
    omega
theorem mj_code_int {i : Nat} (h : i < 65536) : (mj_code i).toInt = (i : Int) - 32768 := Int32.toInt_ofInt_of_le (by omega) (by omega)
theorem mj_code_inj {i j : Nat} (hi : i < 65536) (hj : j < 65536) (e : mj_code i = mj_code j) : i = j := by
  have h := congrArg Int32.toInt e
  rw [mj_code_int hi, mj_code_int hj] at h
  omega
theorem mj_code_of {v : Int32} (h1 : -32768 ≤ v.toInt) (h2 : v.toInt ≤ 32767) : ∃ i : Nat, i < 65536 ∧ mj_code i = v := by
  refine ⟨(v.toInt + 32768).toNat, by omega, Int32.toInt_inj.mp ?_⟩
  rw [mj_code_int (by omega)]
  omega
theorem mj_su_pt {v : Int32} {x : Int} {i : Nat} (hi : i < 65536) (e : mj_code i = v) : ∀ n : Nat, n ≤ 65536 → mj_su (fun w => if w = v then x else 0) n = if i < n then x else 0
  | 0, _ => by
    rw [if_neg (Nat.not_lt_zero i)]
    rfl
  | n + 1, h => by
    have ih := mj_su_pt (x := x) hi e n (by omega)
    simp only [mj_su]
    rw [ih]
    by_cases c : n = i
    · rw [c, if_neg (Nat.lt_irrefl i), if_pos e, if_pos (Nat.lt_succ_self i), Int.zero_add]
    · have c2 : ¬ mj_code n = v := fun q => c (mj_code_inj (by omega) hi (q.trans e.symm))
      rw [if_neg c2, Int.add_zero]
      by_cases c3 : i < n
      · rw [if_pos c3, if_pos (show i < n + 1 by omega)]
      · rw [if_neg c3, if_neg (show ¬ i < n + 1 by omega)]
theorem mj_su_many {c : Int} (N : Nat) (hN : N = 65536) : ∀ (k : Nat) (d : Int32 → Int) (V : Nat → Int32), (∀ v : Int32, 0 ≤ d v) → (∀ j : Nat, j < k → d (V j) = c ∧ -32768 ≤ (V j).toInt ∧ (V j).toInt ≤ 32767) → (∀ a b : Nat, a < k → b < k → V a = V b → a = b) → (k : Int) * c ≤ mj_su d N
  | 0, d, V, h, _, _ => by
    rw [show ((0 : Nat) : Int) * c = 0 from Int.zero_mul c]
    exact mj_su_nn h N
  | k + 1, d, V, h, hv, hd => by
    obtain ⟨v1, v2, v3⟩ := hv k (by omega)
    obtain ⟨i, hi, e⟩ := mj_code_of v2 v3
    have ih := mj_su_many (c := c) N hN k (fun w => if w = V k then 0 else d w) V (fun w => by
      show 0 ≤ (if w = V k then 0 else d w)
      split
      · exact Int.le_refl 0
      · exact h w) (fun j hj => by
      have q := hv j (by omega)
      have ne : ¬ V j = V k := fun z => by
        have := hd j k (by omega) (by omega) z
        omega
      show (if V j = V k then 0 else d (V j)) = c ∧ _
      rw [if_neg ne]
      exact q) (fun a b ha hb z => hd a b (by omega) (by omega) z)
    have sp : mj_su d N = mj_su (fun w => if w = V k then 0 else d w) N + mj_su (fun w => if w = V k then c else 0) N := by
      rw [← mj_su_add]
      refine mj_su_congr (fun w => ?_) N
      by_cases z : w = V k
      · rw [if_pos z, if_pos z, z, v1, Int.zero_add]
      · rw [if_neg z, if_neg z, Int.add_zero]
    have pt := mj_su_pt (x := c) hi e N (by omega)
    rw [if_pos (show i < N by omega)] at pt
    rw [sp, pt, show ((k + 1 : Nat) : Int) = (k : Int) + 1 by omega, Int.add_mul, Int.one_mul]
    exact Int.add_le_add_right ih c
theorem mj_cnt_add (f : Nat → Int32) (v : Int32) (l a : Nat) : ∀ b : Nat, cnt f v l (a + b) = cnt f v l a + cnt f v (l + a) b
  | 0 => rfl
  | b + 1 => by
    have ih := mj_cnt_add f v l a b
    rw [← Nat.add_assoc a b 1]
    simp only [cnt]
    rw [ih, Nat.add_assoc l a b, Nat.add_assoc]
def mj_mg (K : Nat) (C : Int32 → Nat) (n : Nat) (μ : Int32 → Int) (L : Int) : Prop := (∀ v : Int32, 0 ≤ μ v) ∧ (∀ v : Int32, ¬ μ v = 0 → -32768 ≤ v.toInt ∧ v.toInt ≤ 32767) ∧ 0 ≤ L ∧ (∀ v : Int32, (C v : Int) ≤ μ v + L) ∧ ∀ N : Nat, N = 65536 → ((K : Int) + 1) * L + mj_su μ N ≤ (n : Int)
theorem mj_mg_le {K : Nat} {C : Int32 → Nat} {n : Nat} {μ : Int32 → Int} {L : Int} (h : mj_mg K C n μ L) : 0 ≤ L ∧ L ≤ (n : Int) ∧ ((K : Int) + 1) * L ≤ (n : Int) := by
  obtain ⟨h1, -, h3, -, h5⟩ := h
  obtain ⟨N, hN⟩ : ∃ N : Nat, N = 65536 := ⟨_, rfl⟩
  have s := h5 N hN
  have q := mj_su_nn h1 N
  have m : 1 * L ≤ ((K : Int) + 1) * L := Int.mul_le_mul_of_nonneg_right (by omega) h3
  rw [Int.one_mul] at m
  omega
theorem mj_mg_z (K : Nat) {C : Int32 → Nat} {n : Nat} (h : n = 0) (hC : ∀ v : Int32, C v = 0) : mj_mg K C n mj_z 0 := by
  subst h
  refine ⟨fun v => Int.le_refl 0, fun v h => absurd rfl h, Int.le_refl 0, fun v => ?_, fun N _ => ?_⟩
  · rw [hC v]
    exact Int.le_refl 0
  · rw [mj_su_z, Int.mul_zero]
    exact Int.le_refl 0
theorem mj_mg_leaf {K : Nat} {f : Nat → Int32} {l : Nat} (h1 : -32768 ≤ (f l).toInt) (h2 : (f l).toInt ≤ 32767) : mj_mg K (fun v => cnt f v l 1) 1 (mj_one (f l)) 0 := by
  refine ⟨fun v => ?_, fun v h => ?_, Int.le_refl 0, fun v => ?_, fun N hN => ?_⟩
  · unfold mj_one
    split <;> omega
  · by_cases e : v = f l
    · rw [e]
      exact ⟨h1, h2⟩
    · exact absurd (show mj_one (f l) v = 0 from if_neg e) h
  · show (cnt f v l 1 : Int) ≤ mj_one (f l) v + 0
    by_cases e : f l = v
    · have c1 : cnt f v l 1 = cnt f v l 0 + 1 := cnt_hit1 (k := 0) e rfl
      have c0 : cnt f v l 0 = 0 := rfl
      have q : mj_one (f l) v = 1 := if_pos e.symm
      omega
    · have c1 : cnt f v l 1 = cnt f v l 0 := cnt_miss1 (k := 0) e rfl
      have c0 : cnt f v l 0 = 0 := rfl
      have q : mj_one (f l) v = 0 := if_neg (fun z => e z.symm)
      omega
  · obtain ⟨i, hi, e⟩ := mj_code_of h1 h2
    have pt := mj_su_pt (x := 1) hi e N (by omega)
    rw [if_pos (show i < N by omega)] at pt
    have q : mj_su (mj_one (f l)) N = 1 := pt
    rw [q, Int.mul_zero]
    omega
theorem mj_mg_tog {K : Nat} {C Ca Cb : Int32 → Nat} {na nb n : Nat} {μa μb μ : Int32 → Int} {La Lb : Int} {c : Int32} (ha : mj_mg K Ca na μa La) (hb : mj_mg K Cb nb μb Lb) (t : mj_tog K μa μb μ c) (hn : n = na + nb) (hC : ∀ v : Int32, C v = Ca v + Cb v) : mj_mg K C n μ (La + Lb + c.toInt) := by
  subst hn
  obtain ⟨V, N, m, hv, hs, hc, he⟩ := t
  obtain ⟨a1, a2, a3, a4, a5⟩ := ha
  obtain ⟨b1, b2, b3, b4, b5⟩ := hb
  have c0 : 0 ≤ c.toInt := by
    rcases hc with ⟨-, h⟩ | ⟨h1, h2⟩
    · omega
    · have w := hv.1 K h1
      rw [Nat.zero_add] at w
      rw [h2]
      omega
  have two : ∀ v : Int32, (μ v = 0 ∧ μa v + μb v ≤ c.toInt) ∨ (c.toInt < μa v + μb v ∧ μ v = μa v + μb v - c.toInt) := fun v => by
    have e := he v
    by_cases q : c.toInt < μa v + μb v
    · rw [if_pos q] at e
      exact Or.inr ⟨q, e⟩
    · rw [if_neg q] at e
      exact Or.inl ⟨e, by omega⟩
  refine ⟨fun v => ?_, fun v h => ?_, by omega, fun v => ?_, fun M hM => ?_⟩
  · have w := two v
    omega
  · have w := two v
    have x := a1 v
    have y := b1 v
    have z : ¬ μa v = 0 ∨ ¬ μb v = 0 := by omega
    rcases z with z | z
    · exact a2 v z
    · exact b2 v z
  · have w := two v
    have x := a4 v
    have y := b4 v
    rw [hC v]
    omega
  · have x := a5 M hM
    have y := b5 M hM
    have dn : ∀ v : Int32, 0 ≤ μa v + μb v - μ v := fun v => by
      have w := two v
      have x := a1 v
      have y := b1 v
      omega
    have sd : mj_su μ M + mj_su (fun v => μa v + μb v - μ v) M = mj_su μa M + mj_su μb M := by
      rw [← mj_su_add, ← mj_su_add]
      exact mj_su_congr (fun v => by
        show μ v + (μa v + μb v - μ v) = μa v + μb v
        omega) M
    have many : ((K : Int) + 1) * c.toInt ≤ mj_su (fun v => μa v + μb v - μ v) M := by
      rcases hc with ⟨-, h⟩ | ⟨h1, h2⟩
      · rw [h, Int.mul_zero]
        exact mj_su_nn dn M
      · have mm := mj_su_many (c := c.toInt) M hM (K + 1) (fun v => μa v + μb v - μ v) V dn (fun j hj => by
          have w := hv.1 j (by omega)
          rw [Nat.zero_add] at w
          have wK : c.toInt ≤ (N j).toInt := by
            rw [h2]
            rcases Nat.lt_or_ge j K with q | q
            · have s := hs j K q h1
              rw [Nat.zero_add, Nat.zero_add] at s
              unfold mj_lea at s
              omega
            · rw [show j = K by omega]
              exact Int.le_refl _
          have w1 : (N j).toInt = μa (V j) + μb (V j) := w.1
          have w2 : 0 < μa (V j) + μb (V j) := w.2
          have u := two (V j)
          have x1 := a1 (V j)
          have y1 := b1 (V j)
          have z : ¬ μa (V j) = 0 ∨ ¬ μb (V j) = 0 := by omega
          refine ⟨(show μa (V j) + μb (V j) - μ (V j) = c.toInt by omega), ?_⟩
          rcases z with z | z
          · exact a2 _ z
          · exact b2 _ z) (fun a b ha hb z => hv.2.1 a b (by omega) (by omega) (by rw [Nat.zero_add, Nat.zero_add]; exact z))
        rw [show ((K + 1 : Nat) : Int) = (K : Int) + 1 by omega] at mm
        exact mm
    rw [Int.mul_add, Int.mul_add]
    omega
theorem mj_mg_add3 {L La Lb c : Int32} {x : Int} (e : L = La + Lb + c) (h1 : 0 ≤ La.toInt) (h2 : 0 ≤ Lb.toInt) (h3 : 0 ≤ c.toInt) (hx : La.toInt + Lb.toInt + c.toInt ≤ x) (h : x ≤ 1000) : L.toInt = La.toInt + Lb.toInt + c.toInt := by
  have e1 : (La + Lb).toInt = La.toInt + Lb.toInt := ki_add rfl rfl rfl (by omega) (by omega)
  exact ki_add e e1 rfl (by omega) (by omega)
theorem mj_T_mg {K : Nat} {f nl nr fm fl fe vv vn : Nat → Int32} (hs : shorts f) : ∀ (d a l r : Nat) (μ : Int32 → Int) (L c : Int32), mj_T K f nl nr fm fl fe vv vn d a l r μ L c → r ≤ 160 → mj_mg K (fun v => cnt f v l (r - l)) (r - l) μ L.toInt
  | 0, a, l, r, μ, L, c, h, hr => by
    obtain ⟨h1, h2, h3, h4, h5⟩ := h
    have s := hs l (by omega)
    rw [h2, h3, show r - l = 1 by omega]
    exact mj_mg_leaf s.1 s.2
  | d + 1, a, l, r, μ, L, c, h, hr => by
    rcases h with ⟨h1, h2, h3, h4, h5⟩ | ⟨h1, h2, μa, La, ca, μb, Lb, cb, ta, tb, hg, hL⟩
    · have s := hs l (by omega)
      rw [h2, h3, show r - l = 1 by omega]
      exact mj_mg_leaf s.1 s.2
    · have ga := mj_T_mg hs d _ _ _ _ _ _ ta (by omega)
      have gb := mj_T_mg hs d _ _ _ _ _ _ tb hr
      have g := mj_mg_tog (C := fun v => cnt f v l (r - l)) (n := r - l) ga gb hg (by omega) (fun v => by
        have e := mj_cnt_add f v l ((l + r) / 2 - l) (r - (l + r) / 2)
        rw [show (l + r) / 2 - l + (r - (l + r) / 2) = r - l by omega, show l + ((l + r) / 2 - l) = (l + r) / 2 by omega] at e
        exact e)
      have b1 := mj_mg_le ga
      have b2 := mj_mg_le gb
      have b3 := mj_mg_le g
      have c0 := mj_tog_nn hg
      rw [mj_mg_add3 hL b1.1 b2.1 c0 b3.2.1 (by omega)]
      exact g
/-! the parts reach the range's end -/
theorem mj_T_lo {K : Nat} {f nl nr fm fl fe vv vn : Nat → Int32} {d a l r : Nat} {μ : Int32 → Int} {L c : Int32} (h : mj_T K f nl nr fm fl fe vv vn d a l r μ L c) (k : Nat) (h1 : a ≤ k) (h2 : k < a + 2 * (r - l) - 1) : (l : Int) ≤ (nl k).toInt ∧ (nl k).toInt < (nr k).toInt ∧ (nr k).toInt ≤ (r : Int) := by
  obtain ⟨e, l2, r2, μ2, L2, c2, x1, x2, x3, x4⟩ := mj_T_all d a l r μ L c h k h1 h2
  have b := mj_T_nd x4
  have lt := mj_T_lt x4
  have b1 := b.1
  have b2 := b.2.1
  omega
theorem mj_T_from {K : Nat} {f nl nr fm fl fe vv vn : Nat → Int32} : ∀ (d a l r : Nat) (μ : Int32 → Int) (L c : Int32), mj_T K f nl nr fm fl fe vv vn d a l r μ L c → ∀ x y : Nat, a ≤ x → x ≤ y → y < a + 2 * (r - l) - 1 → (nl x).toInt ≤ (nl y).toInt
  | 0, a, l, r, μ, L, c, h, x, y, h1, h2, h3 => by
    have e := h.1
    rw [show x = y by omega]
    exact Int.le_refl _
  | d + 1, a, l, r, μ, L, c, h, x, y, h1, h2, h3 => by
    have top := mj_T_lo h y (by omega) h3
    rcases h with ⟨e, -⟩ | ⟨e, b, μa, La, ca, μb, Lb, cb, ta, tb, -, -⟩
    · rw [show x = y by omega]
      exact Int.le_refl _
    · have b1 := b.1
      by_cases hx : x = a
      · rw [hx]
        omega
      · rcases Nat.lt_or_ge y (a + 2 * ((l + r) / 2 - l)) with q | q
        · exact mj_T_from d _ _ _ _ _ _ ta x y (by omega) h2 (by omega)
        · rcases Nat.lt_or_ge x (a + 2 * ((l + r) / 2 - l)) with q2 | q2
          · have u := mj_T_lo ta x (by omega) (by omega)
            have w := mj_T_lo tb y (by omega) (by omega)
            omega
          · exact mj_T_from d _ _ _ _ _ _ tb x y (by omega) h2 (by omega)
theorem mj_pb_mono {nl nr : Nat → Int32} {l r : Int} {nd : Nat} (hok : ∀ k : Nat, k < nd → (nl k).toInt < (nr k).toInt) (a : Nat) : ∀ b : Nat, a ≤ b → b ≤ nd → mj_pb nl nr l r a ≤ mj_pb nl nr l r b
  | 0, h, _ => by rw [show a = 0 by omega]; exact Int.le_refl _
  | b + 1, h, hb => by
    rcases Nat.lt_or_ge b a with q | q
    · rw [show a = b + 1 by omega]
      exact Int.le_refl _
    · have ih := mj_pb_mono (l := l) (r := r) hok a b q (by omega)
      have o := hok b (by omega)
      simp only [mj_pb]
      split
      · rename_i c
        omega
      · exact ih
theorem mj_pb_le {nl nr : Nat → Int32} {l r : Int} (h : l ≤ r) : ∀ k : Nat, mj_pb nl nr l r k ≤ r
  | 0 => h
  | k + 1 => by
    have ih := mj_pb_le (nl := nl) (nr := nr) h k
    simp only [mj_pb]
    split
    · rename_i c
      exact c.2
    · exact ih
theorem mj_pb_eq {nl nr : Nat → Int32} {l r : Int} (a : Nat) : ∀ b : Nat, a ≤ b → mj_pq nl nr l r a = mj_pq nl nr l r b → mj_pb nl nr l r a = mj_pb nl nr l r b
  | 0, h, _ => by rw [show a = 0 by omega]
  | b + 1, h, e => by
    rcases Nat.lt_or_ge b a with q | q
    · rw [show a = b + 1 by omega]
    · have m := mj_pq_mono nl nr l r a b q
      simp only [mj_pq] at e
      by_cases c : (nl b).toInt = mj_pb nl nr l r b ∧ (nr b).toInt ≤ r
      · rw [if_pos c] at e
        omega
      · rw [if_neg c] at e
        simp only [mj_pb]
        rw [if_neg c]
        exact mj_pb_eq a b q (by omega)
theorem mj_pb_end {K : Nat} {f nl nr fm fl fe vv vn : Nat → Int32} {d n nd : Nat} {μ : Int32 → Int} {L c : Int32} {l r : Int} (h : mj_T K f nl nr fm fl fe vv vn d 0 0 n μ L c) (hnd : nd = 2 * n - 1) (hl : 0 ≤ l) (hlr : l < r) (hr : r ≤ (n : Int)) : mj_pb nl nr l r nd = r := by
  have ok : ∀ k : Nat, k < nd → (nl k).toInt < (nr k).toInt := fun k hk => (mj_T_lo h k (Nat.zero_le k) (by omega)).2.1
  have le := mj_pb_le (nl := nl) (nr := nr) (Int.le_of_lt hlr) nd
  have ge := mj_pb_mono (l := l) (r := r) ok 0 nd (Nat.zero_le nd) (Nat.le_refl nd)
  have g0 : mj_pb nl nr l r 0 = l := rfl
  by_cases eB : mj_pb nl nr l r nd = r
  · exact eB
  · exfalso
    obtain ⟨B, hB⟩ : ∃ B : Int, B = mj_pb nl nr l r nd := ⟨_, rfl⟩
    obtain ⟨kb, k1, k2, k3, k4⟩ := mj_T_leafAt B.toNat d 0 0 n μ L c h (Nat.zero_le _) (by omega)
    have kn : kb < nd := by omega
    have up := mj_pb_mono (l := l) (r := r) ok kb nd (by omega) (Nat.le_refl nd)
    by_cases q : mj_pb nl nr l r kb = B
    · have up2 := mj_pb_mono (l := l) (r := r) ok (kb + 1) nd (by omega) (Nat.le_refl nd)
      simp only [mj_pb] at up2
      rw [if_pos ⟨by omega, by omega⟩] at up2
      omega
    · have stay : ∀ y : Nat, kb ≤ y → y ≤ nd → mj_pb nl nr l r y = mj_pb nl nr l r kb := fun y => by
        induction y with
        | zero =>
          intro y1 _
          rw [show kb = 0 by omega]
        | succ y ih =>
          intro y1 y2
          rcases Nat.lt_or_ge y kb with z | z
          · rw [show kb = y + 1 by omega]
          · have e := ih z (by omega)
            have fr := mj_T_from d 0 0 n μ L c h kb y (Nat.zero_le _) z (by omega)
            simp only [mj_pb]
            rw [if_neg (fun w => by have := w.1; omega)]
            exact e
      have := stay nd (by omega) (Nat.le_refl nd)
      omega
theorem mj_H_mg {K : Nat} {f ff ft fs fo fe uv un : Nat → Int32} {l r : Int} {nd : Nat} (hs : shorts f) (ok : ∀ k : Nat, k < nd → mj_ok K f ff ft fs fo fe uv un k) (ht : ∀ k : Nat, k < nd → 0 ≤ (ff k).toInt ∧ (ff k).toInt < (ft k).toInt ∧ (ft k).toInt ≤ 160) (hl : 0 ≤ l) : ∀ (j : Nat) (μ : Int32 → Int) (L : Int32), mj_H K ff ft fs fo uv un l r j μ L → ∀ k : Nat, k ≤ nd → mj_pq ff ft l r k = j → l ≤ mj_pb ff ft l r k ∧ mj_mg K (fun v => cnt f v l.toNat (mj_pb ff ft l r k - l).toNat) (mj_pb ff ft l r k - l).toNat μ L.toInt
  | 0, μ, L, h, k, hk, e => by
    have h1 : μ = mj_z ∧ L = 0 := h
    have s := mj_pb_stay ff ft l r k e
    rw [h1.1, h1.2, s]
    exact ⟨Int.le_refl l, mj_mg_z K (by omega) (fun v => by rw [show (l - l).toNat = 0 by omega]; rfl)⟩
  | j + 1, μ, L, h, k, hk, e => by
    obtain ⟨q, μ0, L0, c, μk, h1, h2, h3, h4, h5, h6, h7, h8, h9⟩ := h
    have qk : q < k := by
      rcases Nat.lt_or_ge q k with z | z
      · exact z
      · have := mj_pq_mono ff ft l r k q z
        omega
    have ih := mj_H_mg hs ok ht hl j μ0 L0 h2 q (by omega) h4
    obtain ⟨t1, t2, t3⟩ := ht q (by omega)
    have n1 := ki_nat (ff q) rfl t1
    have n2 := ki_nat (ft q) rfl (by omega)
    have p2 := mj_pbq_yes h3 rfl
    have pk := mj_pb_eq (nl := ff) (nr := ft) (l := l) (r := r) (q + 1) k (by omega) (by omega)
    have h31 := h3.1
    obtain ⟨d, μ2, L2, c2, t⟩ := ok q (by omega)
    have b := mj_T_nd t
    have em : μ2 = μk := mj_vs_map b.2.2.2.2.2.2.2.1 h5
    subst em
    have gb := mj_T_mg hs d _ _ _ _ _ _ t (by omega)
    have g := mj_mg_tog (C := fun v => cnt f v l.toNat (mj_pb ff ft l r k - l).toNat) (n := (mj_pb ff ft l r k - l).toNat) ih.2 gb h8 (by omega) (fun v => by
      have e := mj_cnt_add f v l.toNat (mj_pb ff ft l r q - l).toNat ((ft q).toNatClampNeg - (ff q).toNatClampNeg)
      rw [show (mj_pb ff ft l r q - l).toNat + ((ft q).toNatClampNeg - (ff q).toNatClampNeg) = (mj_pb ff ft l r k - l).toNat by omega, show l.toNat + (mj_pb ff ft l r q - l).toNat = (ff q).toNatClampNeg by omega] at e
      exact e)
    have b1 := mj_mg_le ih.2
    have b2 := mj_mg_le gb
    have b3 := mj_mg_le g
    have c0 := mj_tog_nn h8
    have bl : fo q = L2 := b.2.2.2.2.2.1
    rw [bl] at h9
    refine ⟨by omega, ?_⟩
    rw [mj_mg_add3 h9 b1.1 b2.1 c0 b3.2.1 (by omega)]
    exact g
/-- what is heavy is among the votes -/
theorem mj_mg_heavy {K : Nat} {C : Int32 → Nat} {n : Nat} {μ : Int32 → Int} {L p q : Int} {v : Int32} (h : mj_mg K C n μ L) (hp : 0 ≤ p) (hq : 0 ≤ q) (he : q ≤ p * ((K : Int) + 1)) (hv : p * (n : Int) < (C v : Int) * q) : ¬ μ v = 0 := by
  intro z
  have b := mj_mg_le h
  have c := h.2.2.2.1 v
  have x1 : (C v : Int) * q ≤ L * q := Int.mul_le_mul_of_nonneg_right (by omega) hq
  have x2 : L * q ≤ L * (p * ((K : Int) + 1)) := Int.mul_le_mul_of_nonneg_left he b.1
  have x3 : L * (p * ((K : Int) + 1)) = p * (((K : Int) + 1) * L) := by rw [Int.mul_comm L, Int.mul_assoc]
  have x4 : p * (((K : Int) + 1) * L) ≤ p * (n : Int) := Int.mul_le_mul_of_nonneg_left b.2.2 hp
  rw [x3] at x2
  omega
theorem mj_GA_mg {K : Nat} {f ff ft fs fo fe uv un fv fn : Nat → Int32} {n nd l r : Int} {vs lo : Int32} (hs : shorts f) (hC : mj_C K f ff ft fs fo fe uv un nd n) (hn : n ≤ 160) (hl : 0 ≤ l) (hlr : l < r) (hr : r ≤ n) (g : mj_GA K ff ft fs fo uv un l r (mj_pq ff ft l r nd.toNat) vs lo fv fn) : ∃ μ : Int32 → Int, mj_vs fv fn 0 vs.toNatClampNeg μ ∧ mj_mg K (fun v => cnt f v l.toNat (r - l).toNat) (r - l).toNat μ lo.toInt ∧ ∀ v : Int32, μ v ≤ 51200 := by
  obtain ⟨c1, c2, c3, c4, c5, c6, c7⟩ := hC
  have n0 : 0 < n := by omega
  have cn : nd = 2 * n - 1 := by omega
  obtain ⟨d, μ0, L0, c0, t0⟩ := c7 0 (by omega)
  have r0 := c6 n0
  have z0 : (ff 0).toNatClampNeg = 0 := by
    have := ki_nat (ff 0) rfl (by omega)
    omega
  have z1 : (ft 0).toNatClampNeg = n.toNat := by
    have := ki_nat (ft 0) rfl (by omega)
    omega
  rw [z0, z1] at t0
  have pe := mj_pb_end (nd := nd.toNat) (l := l) (r := r) t0 (by omega) hl hlr (by omega)
  obtain ⟨μ, L, h1, h2, -, -, -, h7, h8⟩ := g
  have pl := mj_pq_le ff ft l r nd.toNat
  have mg := mj_H_mg (nd := nd.toNat) hs (fun k hk => c7 k (by omega)) (fun k hk => by
    have o := c4 k (by omega)
    unfold okAt at o
    omega) hl _ μ L h1 nd.toNat (Nat.le_refl _) rfl
  rw [pe] at mg
  exact ⟨μ, h2, by rw [h7]; exact mg.2, fun v => by
    have := (h8 v).2
    omega⟩
theorem mj_GA_heavy {K : Nat} {f ff ft fs fo fe uv un fv fn : Nat → Int32} {n nd l r p q : Int} {vs lo : Int32} (hs : shorts f) (hC : mj_C K f ff ft fs fo fe uv un nd n) (hn : n ≤ 160) (hl : 0 ≤ l) (hlr : l < r) (hr : r ≤ n) (g : mj_GA K ff ft fs fo uv un l r (mj_pq ff ft l r nd.toNat) vs lo fv fn) (hp : 0 ≤ p) (hq : 0 ≤ q) (he : q ≤ p * ((K : Int) + 1)) (v : Int32) (hv : p * (r - l) < (cnt f v l.toNat (r - l).toNat : Int) * q) : ∃ j : Nat, j < vs.toNatClampNeg ∧ fv j = v := by
  obtain ⟨μ, h2, mg, -⟩ := mj_GA_mg hs hC hn hl hlr hr g
  have ne := mj_mg_heavy (v := v) mg hp hq he (by rw [show (((r - l).toNat : Nat) : Int) = r - l by omega]; exact hv)
  obtain ⟨j, j1, j2⟩ := h2.2.2 v ne
  rw [Nat.zero_add] at j2
  exact ⟨j, j1, j2⟩


