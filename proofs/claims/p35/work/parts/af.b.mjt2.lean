/-- one of two that belong together -/
def mj_ex2 (P : Int → Int → Prop) (a i j x : Int) : Prop := ∃ u v : Int, P u v ∧ ((a = i ∧ x = u) ∨ (a = j ∧ x = v))
def mj_lst (P : Nat → Prop) (lo hi : Nat) (x : Int) : Prop := (∃ m : Nat, lo < m ∧ m ≤ hi ∧ P m ∧ x = (m : Int) ∧ ∀ k : Nat, m < k → k ≤ hi → ¬ P k) ∨ (x = -1 ∧ ∀ k : Nat, lo < k → k ≤ hi → ¬ P k)
theorem mj_lst_yes {P : Nat → Prop} {lo hi hi2 : Nat} {x : Int} (e : hi2 = hi + 1) (hlo : lo ≤ hi) (hp : P hi2) (hx : x = (hi2 : Int)) : mj_lst P lo hi2 x := Or.inl ⟨hi2, by omega, Nat.le_refl _, hp, hx, fun k h1 h2 => by omega⟩
theorem mj_lst_no {P : Nat → Prop} {lo hi hi2 : Nat} {x : Int} (h : mj_lst P lo hi x) (e : hi2 = hi + 1) (hp : ¬ P hi2) : mj_lst P lo hi2 x := by
  subst e
  have ext : ∀ k : Nat, k ≤ hi + 1 → (k ≤ hi → ¬ P k) → ¬ P k := fun k h1 h2 => by
    rcases Nat.lt_or_eq_of_le h1 with h9 | h9
    · exact h2 (by omega)
    · rw [h9]; exact hp
  rcases h with ⟨m, a1, a2, a3, a4, a5⟩ | ⟨a1, a2⟩
  · exact Or.inl ⟨m, a1, by omega, a3, a4, fun k h1 h2 => ext k h2 (fun h => a5 k h1 h)⟩
  · exact Or.inr ⟨a1, fun k h1 h2 => ext k h2 (fun h => a2 k h1 h)⟩


def mj_hv (f : Nat → Int32) (v : Int32) (p q : Int) (l r : Nat) : Prop := p * ((r : Int) - (l : Int)) < (cnt f v l (r - l) : Int) * q
def mj_lg (hv D : Nat → Nat → Prop) (bl br : Int) : Prop := (bl = -1 ∧ br = -1 ∧ ∀ l r : Nat, D l r → ¬ hv l r) ∨ (∃ a b : Nat, D a b ∧ a < b ∧ hv a b ∧ bl = (a : Int) ∧ br = (b : Int) ∧ ∀ l r : Nat, D l r → hv l r → (r : Int) - (l : Int) < (b : Int) - (a : Int) ∨ ((r : Int) - (l : Int) = (b : Int) - (a : Int) ∧ a ≤ l))
theorem mj_lg_uni {hv D : Nat → Nat → Prop} {bl br cl cr : Int} (h : mj_lg hv D bl br) (h2 : mj_lg hv D cl cr) : bl = cl ∧ br = cr := by
  rcases h with ⟨a1, a2, a3⟩ | ⟨a, b, a1, a2, a3, a4, a5, a6⟩ <;> rcases h2 with ⟨b1, b2, b3⟩ | ⟨c, d, b1, b2, b3, b4, b5, b6⟩
  · omega
  · exact absurd b3 (a3 c d b1)
  · exact absurd a3 (b3 a b a1)
  · have x := a6 c d b1 b3
    have y := b6 a b a1 a3
    omega
theorem mj_lg_iff {hv D D2 : Nat → Nat → Prop} {bl br : Int} (h : mj_lg hv D bl br) (e : ∀ l r : Nat, D l r ↔ D2 l r) : mj_lg hv D2 bl br := by
  have : D = D2 := funext fun l => funext fun r => propext (e l r)
  subst this
  exact h
theorem mj_lg_put {hv D D2 : Nat → Nat → Prop} {bl br : Int} {i r : Nat} (h : mj_lg hv D bl br) (e : ∀ l' r' : Nat, D2 l' r' ↔ D l' r' ∨ (l' = i ∧ r' = r)) (hir : i < r) (hv1 : hv i r) (hb : bl < 0 ∨ br - bl < (r : Int) - (i : Int)) : mj_lg hv D2 (i : Int) (r : Int) := by
  refine Or.inr ⟨i, r, (e i r).mpr (Or.inr ⟨rfl, rfl⟩), hir, hv1, rfl, rfl, fun l' r' hd hh => ?_⟩
  rcases (e l' r').mp hd with hd | ⟨q1, q2⟩
  · rcases h with ⟨a1, a2, a3⟩ | ⟨a, b, a1, a2, a3, a4, a5, a6⟩
    · exact absurd hh (a3 l' r' hd)
    · have := a6 l' r' hd hh
      omega
  · subst q1; subst q2
    exact Or.inr ⟨rfl, Nat.le_refl _⟩
theorem mj_lg_skip {hv D D2 : Nat → Nat → Prop} {bl br : Int} {i r : Nat} (h : mj_lg hv D bl br) (e : ∀ l' r' : Nat, D2 l' r' ↔ D l' r' ∨ (l' = i ∧ r' = r)) (hD : ∀ l' r' : Nat, D l' r' → l' ≤ i) (hb : ¬ hv i r ∨ (0 ≤ bl ∧ (r : Int) - (i : Int) ≤ br - bl)) : mj_lg hv D2 bl br := by
  rcases h with ⟨a1, a2, a3⟩ | ⟨a, b, a1, a2, a3, a4, a5, a6⟩
  · refine Or.inl ⟨a1, a2, fun l' r' hd hh => ?_⟩
    rcases (e l' r').mp hd with hd | ⟨q1, q2⟩
    · exact a3 l' r' hd hh
    · subst q1; subst q2
      rcases hb with hb | hb
      · exact hb hh
      · omega
  · refine Or.inr ⟨a, b, (e a b).mpr (Or.inl a1), a2, a3, a4, a5, fun l' r' hd hh => ?_⟩
    rcases (e l' r').mp hd with hd | ⟨q1, q2⟩
    · exact a6 l' r' hd hh
    · subst q1; subst q2
      rcases hb with hb | hb
      · exact absurd hh hb
      · have := hD a b a1
        omega
def mj_D (n i : Nat) (l r : Nat) : Prop := l < i ∧ l < r ∧ r ≤ n
/-- a whole row of ranges from i on -/
theorem mj_lg_row {hv : Nat → Nat → Prop} {bl br x bl2 br2 : Int} {n i i2 : Nat} (h : mj_lg hv (mj_D n i) bl br) (hl : mj_lst (fun m => hv i m) i n x) (ei : i2 = i + 1) (hb : (¬ x = -1 ∧ br - bl < x - (i : Int) ∧ bl2 = (i : Int) ∧ br2 = x) ∨ ((x = -1 ∨ x - (i : Int) ≤ br - bl) ∧ bl2 = bl ∧ br2 = br)) : mj_lg hv (mj_D n i2) bl2 br2 := by
  subst ei
  have old : ∀ l r : Nat, mj_D n (i + 1) l r → mj_D n i l r ∨ l = i := fun l r hd => by
    unfold mj_D at hd ⊢
    omega
  have up : ∀ l r : Nat, mj_D n i l r → mj_D n (i + 1) l r := fun l r hd => by
    unfold mj_D at hd ⊢
    omega
  rcases hl with ⟨m, b1, b2, b3, b4, b5⟩ | ⟨b1, b2⟩
  · have most : ∀ r : Nat, r ≤ n → hv i r → r ≤ m := fun r hr hh => by
      rcases Nat.lt_or_ge m r with h9 | h9
      · exact absurd hh (b5 r h9 hr)
      · exact h9
    rcases hb with ⟨c1, c2, c3, c4⟩ | ⟨c1, c3, c4⟩
    · refine Or.inr ⟨i, m, ⟨Nat.lt_succ_self i, b1, b2⟩, b1, b3, c3, by omega, fun l r hd hh => ?_⟩
      rcases old l r hd with hd2 | e
      · rcases h with ⟨a1, a2, a3⟩ | ⟨a, b, a1, a2, a3, a4, a5, a6⟩
        · exact absurd hh (a3 l r hd2)
        · have := a6 l r hd2 hh
          omega
      · subst e
        have := most r hd.2.2 hh
        omega
    · subst c3; subst c4
      rcases h with ⟨a1, a2, a3⟩ | ⟨a, b, a1, a2, a3, a4, a5, a6⟩
      · omega
      · refine Or.inr ⟨a, b, up a b a1, a2, a3, a4, a5, fun l r hd hh => ?_⟩
        rcases old l r hd with hd2 | e
        · exact a6 l r hd2 hh
        · subst e
          have := most r hd.2.2 hh
          have := a1.1
          omega
  · rcases hb with ⟨c1, -⟩ | ⟨-, c3, c4⟩
    · exact absurd b1 c1
    · subst c3; subst c4
      rcases h with ⟨a1, a2, a3⟩ | ⟨a, b, a1, a2, a3, a4, a5, a6⟩
      · refine Or.inl ⟨a1, a2, fun l r hd hh => ?_⟩
        rcases old l r hd with hd2 | e
        · exact a3 l r hd2 hh
        · subst e
          exact b2 r hd.2.1 hd.2.2 hh
      · refine Or.inr ⟨a, b, up a b a1, a2, a3, a4, a5, fun l r hd hh => ?_⟩
        rcases old l r hd with hd2 | e
        · exact a6 l r hd2 hh
        · subst e
          exact absurd hh (b2 r hd.2.1 hd.2.2)
def mj_D2 (n i j : Nat) (l r : Nat) : Prop := mj_D n i l r ∨ (l = i ∧ i < r ∧ r < j ∧ r ≤ n)

set_option maxHeartbeats 4000000 in
set_option maxRecDepth 100000 in
theorem c_X4_farthestHeavy_x (l : Launch) (dC : Nat → ClassId) (dI : Nat → Nat → Nat) (m_ : Nat) (q_row : Nat) (q_t : Nat) (t_ : Nat) (h0 : Nat) (k0 : Nat) (w_ : Nat) (z_ : Nat) (slots : Int32) (old : Int32) (q_cell : Nat) (cyI : ClassId) (len : Int32) (f : Nat → Int32) (p0 : Int32) (p1 : Int32) (p2 : Int32) (p3 : Int32) (a0 : 0 ≤ len.toInt) (a1 : len.toInt ≤ 160) (b0 : 0 ≤ p1.toInt) (b1 : p1.toInt ≤ len.toInt) (b2 : 1 ≤ p2.toInt) (b3 : p2.toInt ≤ p3.toInt) (b4 : p3.toInt ≤ 999) : Met l yX4_farthestHeavy wsX4_farthestHeavy ({ frames := 1, cells := 0, slots := 0, locals := 45 }) (va_Pc [.ref m_, .int p0, .int p1, .int p2, .int p3] (fun U => va_P (dC, dI) vwCl [kx_4 m_ q_row q_t t_ h0 k0 w_ z_ slots old, kx_0 q_row q_cell len, kx_a q_cell cyI 160 f] U.heap ∧ va_K (dC, dI) vwCl [(cyI, .int)] U)) (vp_Si (fun r : Int32 => mj_lst (mj_hv f p0 p2.toInt p3.toInt p1.toNatClampNeg) p1.toNatClampNeg len.toNatClampNeg r.toInt)) 0 0 (fun _ => False) := by
  refine kx_stS (ws := wsX4_farthestHeavy) (cc := cX4_farthestHeavy) (maxL := 8) (ret := (some .int)) (by decide) rfl (Nat.le_of_ble_eq_true rfl) ?_
  intro p e s m below meth c ls hx hb hr hlocks hts hown hml hP hK hl
  have hown : s.vm.findClass RX4 = some m.cls := hown
  have hl : lv_has ls 8 [(0, .ref m_), (1, .int p0), (2, .int p1), (3, .int p2), (4, .int p3)] := hl
  have hf_12 := hts (.fieldLink RX4 12 "MajorityIndex" "row" "LMajorityIndex$Row;") (List.mem_of_getElem? (i := 1) rfl)
  have hi_4 : ∀ w ∈ u_ws RX4 TX4 9, w ∈ wsX4_farthestHeavy := fun w h => List.mem_cons_of_mem _ (List.mem_append_left _ (List.mem_append_right _ h))
  have hf_57 := hts (.fieldLink RX4 57 "MajorityIndex$Row" "length" "I") (List.mem_of_getElem? (i := 2) rfl)
  have hi_0 : ∀ w ∈ u_ws RX0 TX0 2, w ∈ wsX4_farthestHeavy := fun w h => List.mem_cons_of_mem _ (List.mem_append_right _ h)
  have hf_110 := hts (.fieldLink RX4 110 "MajorityIndex$Row" "cell" "[I") (List.mem_of_getElem? (i := 3) rfl)
  have n_p1 := ki_nat p1 rfl (om_10 b0)
  have n_l := ki_nat len rfl (om_10 a0)
  refine lv_iconst (v := (-1)) hx hb dX4_farthestHeavy_0 (by decide) ?_
  refine lv_istore (lv' := [(5, .int (-1)), (0, .ref m_), (1, .int p0), (2, .int p1), (3, .int p2), (4, .int p3)]) hx hb dX4_farthestHeavy_1 hl (by decide) rfl (fun ls hl => ?_)
  refine lv_iconst (v := 0) hx hb dX4_farthestHeavy_3 (by decide) ?_
  refine lv_istore (lv' := [(6, .int 0), (5, .int (-1)), (0, .ref m_), (1, .int p0), (2, .int p1), (3, .int p2), (4, .int p3)]) hx hb dX4_farthestHeavy_4 hl (by decide) rfl (fun ls hl => ?_)
  refine lv_iload_n hx hb dX4_farthestHeavy_6 rfl (lv_at hl 4 rfl) ?_
  refine lv_istore (lv' := [(7, .int p1), (6, .int 0), (5, .int (-1)), (0, .ref m_), (1, .int p0), (2, .int p1), (3, .int p2), (4, .int p3)]) hx hb dX4_farthestHeavy_7 hl (by decide) rfl (fun ls hl => ?_)
  have LP1 : ∀ (n : Nat) (i : Int32) (far : Int32) (of : Int32), (p1.toInt ≤ i.toInt) → (of.toInt = (cnt f p0 p1.toNatClampNeg (i.toNatClampNeg - p1.toNatClampNeg) : Int)) → (mj_lst (mj_hv f p0 p2.toInt p3.toInt p1.toNatClampNeg) p1.toNatClampNeg i.toNatClampNeg far.toInt) → (i.toInt ≤ len.toInt) → (len.toInt - i.toInt).toNat < n → ∀ (ls : Array Slot), lv_has ls 8 [(7, .int i), (6, .int of), (5, .int far), (0, .ref m_), (1, .int p0), (2, .int p1), (3, .int p2), (4, .int p3)] → W p l e (headSpec wsX4_farthestHeavy ({ frames := 1, cells := 0, slots := 0, locals := 45 })).room s m ([.ref m_, .int p0, .int p1, .int p2, .int p3] : List Value).toArray below meth c s.heap [] 0 0 (MQ below (vp_Si (fun r : Int32 => mj_lst (mj_hv f p0 p2.toInt p3.toInt p1.toNatClampNeg) p1.toNatClampNeg len.toNatClampNeg r.toInt)) ([.ref m_, .int p0, .int p1, .int p2, .int p3] : List Value).toArray s 0 0 (fun _ => False)) (F0 m 9 ls []) := by
    intro n
    induction n with
    | zero => intro i far of LP1_h0 LP1_h1 LP1_h2 LP1_h3 hn; exact absurd hn (Nat.not_lt_zero _)
    | succ n ih1 =>
      intro i far of LP1_h0 LP1_h1 LP1_h2 LP1_h3 hn1 ls hl
      have n_i := ki_nat i rfl (om_0 b0 LP1_h0)
      have hle := cnt_le f p0 p1.toNatClampNeg (i.toNatClampNeg - p1.toNatClampNeg)
      refine lv_iload hx hb dX4_farthestHeavy_9 (lv_at hl 0 rfl) ?_
      refine lv_aload_n hx hb dX4_farthestHeavy_11 rfl (lv_at hl 3 rfl) ?_
      refine va_get (D := (dC, dI)) (ci := 4) (v := .ref q_row) (C := RX4) (T := TX4) (N := 9) hx hb hts hi_4 hown hK hP 0 rfl rfl 0 (by decide) hf_12 (fun _ h9 => h9) rfl dX4_farthestHeavy_12 ?_
      refine va_get (D := (dC, dI)) (ci := 0) (v := .int len) (C := RX0) (T := TX0) (N := 2) hx hb hts hi_0 hown hK hP 1 rfl rfl 1 (by decide) hf_57 (fun _ h9 => h9) rfl dX4_farthestHeavy_15 ?_
      refine lv_icmp_ge (tgt := 67) hx hb dX4_farthestHeavy_18 (by decide) (fun c_1 => ?_) (fun c_1 => ?_)
      · have i_1 : len.toInt ≤ i.toInt := kc_le c_1
        refine lv_iload hx hb dX4_farthestHeavy_67 (lv_at hl 2 rfl) ?_
        exact W.iret (v := far) hx hb hr (hlocks := hlocks) (fun t ht hW => ⟨far, rfl, (by (try dsimp only); rw [show len.toNatClampNeg = i.toNatClampNeg by omega]; exact LP1_h2), ht⟩) (fun q hq => by cases hq) dX4_farthestHeavy_69
      · have i_1 : i.toInt < len.toInt := kc_nle c_1
        refine lv_aload_n hx hb dX4_farthestHeavy_21 rfl (lv_at hl 3 rfl) ?_
        refine va_get (D := (dC, dI)) (ci := 4) (v := .ref q_row) (C := RX4) (T := TX4) (N := 9) hx hb hts hi_4 hown hK hP 0 rfl rfl 0 (by decide) hf_12 (fun _ h9 => h9) rfl dX4_farthestHeavy_22 ?_
        refine va_get (D := (dC, dI)) (ci := 0) (v := .ref q_cell) (C := RX0) (T := TX0) (N := 2) hx hb hts hi_0 hown hK hP 1 rfl rfl 0 (by decide) hf_110 (fun _ h9 => h9) rfl dX4_farthestHeavy_25 ?_
        refine lv_iload hx hb dX4_farthestHeavy_28 (lv_at hl 0 rfl) ?_
        refine va_iald hx hb hK hP 2 0 rfl rfl (ki_in (om_0 b0 LP1_h0) (om_1 a1 i_1)) dX4_farthestHeavy_30 ?_
        refine lv_topi (fun y_2 ey_2 => ?_)
        have j_2 : y_2.toInt = (f i.toNatClampNeg).toInt := congrArg Int32.toInt ey_2
        refine lv_iload_n hx hb dX4_farthestHeavy_31 rfl (lv_at hl 4 rfl) ?_
        refine lv_icmp_ne (tgt := 38) hx hb dX4_farthestHeavy_32 (by decide) (fun c_3 => ?_) (fun c_3 => ?_)
        · have i_3 : ¬ y_2.toInt = p0.toInt := kc_ne c_3
          refine lv_iload hx hb dX4_farthestHeavy_38 (lv_at hl 1 rfl) ?_
          refine lv_iload hx hb dX4_farthestHeavy_40 (lv_at hl 0 rfl) ?_
          refine lv_iconst (v := 1) hx hb dX4_farthestHeavy_42 (by decide) ?_
          refine lv_iadd hx hb dX4_farthestHeavy_43 ?_
          refine lv_topi (fun y_4 ey_4 => ?_)
          have i_4 : y_4.toInt = i.toInt + 1 := ki_add ey_4 rfl rfl (om_2 b0 LP1_h0) (om_238 a1 LP1_h3)
          refine lv_iload_n hx hb dX4_farthestHeavy_44 rfl (lv_at hl 5 rfl) ?_
          refine lv_isub hx hb dX4_farthestHeavy_45 ?_
          refine lv_topi (fun y_5 ey_5 => ?_)
          have i_5 : y_5.toInt = y_4.toInt - p1.toInt := ki_sub ey_5 rfl rfl (om_511 LP1_h0 i_4) (om_512 a1 b0 LP1_h3 i_4)
          refine lv_iload_n hx hb dX4_farthestHeavy_46 rfl (lv_at hl 6 rfl) ?_
          refine lv_iload hx hb dX4_farthestHeavy_47 (lv_at hl 7 rfl) ?_
          have hPc := hP.sub (ws' := []) [] rfl
          have hKc := hK.sub (tys' := []) [] rfl
          refine vp_callSi (W.runS (As := [.int of, .int y_5, .int p2, .int p3]) (rest := []) ⟨hx, hb, hml, hown, hts⟩ (c_X4_isHeavy_x l dC dI of y_5 p2 p3 (om_144 LP1_h1 (Int.natCast_nonneg _)) (by omega) (om_513 LP1_h0 i_4 i_5) (om_514 a1 b0 LP1_h3 i_4 i_5) (om_51 b2) (om_515 b3 b4) (om_516 b2 b3) b4) (va_cwS 4 hts gX4_farthestHeavy_X4_isHeavy rfl rfl rfl (by decide +kernel) ⟨Nat.le_of_ble_eq_true rfl, Nat.le_of_ble_eq_true rfl⟩) ⟨fun a U g mk q => by obtain ⟨q0, qP, qK⟩ := q; exact ⟨q0, qP, va_K.moved (u := U) (U := U.calling g mk a) (Vm.Alike.refl U.vm) qK⟩, fun U hU hW => ⟨rfl, by rw [hU]; exact hPc, va_K.moved hW.alike hKc⟩⟩ rfl rfl hl.1 rfl (lv_room (Nat.le_of_ble_eq_true rfl)) dX4_farthestHeavy_49 ⟨Nat.le_of_ble_eq_true rfl, Nat.le_of_ble_eq_true rfl⟩) (fun r_6 w_6 => ?_)
          rcases w_6 with ⟨rfl, w_6⟩ | ⟨rfl, w_6⟩
          · have w_6 : p2.toInt * y_5.toInt < of.toInt * p3.toInt := w_6
            refine lv_if_eq (tgt := 61) hx hb dX4_farthestHeavy_52 (by decide) (fun c_7 => ?_) (fun c_7 => ?_)
            · exact absurd c_7 (by decide)
            · refine lv_iload hx hb dX4_farthestHeavy_55 (lv_at hl 0 rfl) ?_
              refine lv_iconst (v := 1) hx hb dX4_farthestHeavy_57 (by decide) ?_
              refine lv_iadd hx hb dX4_farthestHeavy_58 ?_
              refine lv_topi (fun y_8 ey_8 => ?_)
              have i_8 : y_8.toInt = i.toInt + 1 := ki_add ey_8 rfl rfl (om_2 b0 LP1_h0) (om_238 a1 LP1_h3)
              refine lv_istore (lv' := [(5, .int y_8), (7, .int i), (6, .int of), (0, .ref m_), (1, .int p0), (2, .int p1), (3, .int p2), (4, .int p3)]) hx hb dX4_farthestHeavy_59 hl (by decide) rfl (fun ls hl => ?_)
              obtain ⟨x_9, ex_9⟩ : ∃ y : Int32, y = i + 1 := ⟨_, rfl⟩
              have i_9 : x_9.toInt = i.toInt + 1 := ki_add ex_9 rfl rfl (om_2 b0 LP1_h0) (om_238 a1 LP1_h3)
              refine lv_iinc (v := x_9) (lv' := [(7, .int x_9), (5, .int y_8), (6, .int of), (0, .ref m_), (1, .int p0), (2, .int p1), (3, .int p2), (4, .int p3)]) hx hb dX4_farthestHeavy_61 hl (k := 1) rfl (by rw [ex_9]; rfl) (by decide) rfl (fun ls hl => ?_)
              refine lv_goto (tgt := 9) hx hb dX4_farthestHeavy_64 (by decide) ?_
              have n_10 := ki_nat x_9 rfl (om_89 b0 LP1_h0 i_9)
              have st : cnt f p0 p1.toNatClampNeg (x_9.toNatClampNeg - p1.toNatClampNeg) = cnt f p0 p1.toNatClampNeg (i.toNatClampNeg - p1.toNatClampNeg) := cnt_miss1 (by rw [show p1.toNatClampNeg + (i.toNatClampNeg - p1.toNatClampNeg) = i.toNatClampNeg by omega]; exact fun h => c_3 (ey_2.trans h)) (by omega)
              have q_o : (cnt f p0 p1.toNatClampNeg (x_9.toNatClampNeg - p1.toNatClampNeg) : Int) = of.toInt := by rw [st]; omega
              have q_l : ((x_9.toNatClampNeg : Nat) : Int) - ((p1.toNatClampNeg : Nat) : Int) = y_5.toInt := by omega
              exact ih1 x_9 y_8 of (om_4 LP1_h0 i_9) (by rw [st]; omega) (mj_lst_yes (hi := i.toNatClampNeg) (by omega) (by omega) (by (try dsimp only); unfold mj_hv; rw [q_o, q_l]; exact w_6) (by omega)) (om_54 i_1 i_9) (om_mu hn1 (om_5 i_9) (om_6 i_1)) ls (lv_sub hl [0, 2, 1, 3, 4, 5, 6, 7] rfl)
          · have w_6 : of.toInt * p3.toInt ≤ p2.toInt * y_5.toInt := w_6
            refine lv_if_eq (tgt := 61) hx hb dX4_farthestHeavy_52 (by decide) (fun c_11 => ?_) (fun c_11 => ?_)
            · obtain ⟨x_12, ex_12⟩ : ∃ y : Int32, y = i + 1 := ⟨_, rfl⟩
              have i_12 : x_12.toInt = i.toInt + 1 := ki_add ex_12 rfl rfl (om_2 b0 LP1_h0) (om_238 a1 LP1_h3)
              refine lv_iinc (v := x_12) (lv' := [(7, .int x_12), (6, .int of), (5, .int far), (0, .ref m_), (1, .int p0), (2, .int p1), (3, .int p2), (4, .int p3)]) hx hb dX4_farthestHeavy_61 hl (k := 0) rfl (by rw [ex_12]; rfl) (by decide) rfl (fun ls hl => ?_)
              refine lv_goto (tgt := 9) hx hb dX4_farthestHeavy_64 (by decide) ?_
              have n_13 := ki_nat x_12 rfl (om_89 b0 LP1_h0 i_12)
              have st : cnt f p0 p1.toNatClampNeg (x_12.toNatClampNeg - p1.toNatClampNeg) = cnt f p0 p1.toNatClampNeg (i.toNatClampNeg - p1.toNatClampNeg) := cnt_miss1 (by rw [show p1.toNatClampNeg + (i.toNatClampNeg - p1.toNatClampNeg) = i.toNatClampNeg by omega]; exact fun h => c_3 (ey_2.trans h)) (by omega)
              have q_o : (cnt f p0 p1.toNatClampNeg (x_12.toNatClampNeg - p1.toNatClampNeg) : Int) = of.toInt := by rw [st]; omega
              have q_l : ((x_12.toNatClampNeg : Nat) : Int) - ((p1.toNatClampNeg : Nat) : Int) = y_5.toInt := by omega
              exact ih1 x_12 far of (om_4 LP1_h0 i_12) (by rw [st]; omega) (mj_lst_no LP1_h2 (by omega) (by (try dsimp only); unfold mj_hv; rw [q_o, q_l]; omega)) (om_54 i_1 i_12) (om_mu hn1 (om_5 i_12) (om_6 i_1)) ls (lv_sub hl [0, 1, 2, 3, 4, 5, 6, 7] rfl)
            · exact absurd c_11 (by decide)
        · have i_3 : y_2.toInt = p0.toInt := kc_eq c_3
          obtain ⟨x_14, ex_14⟩ : ∃ y : Int32, y = of + 1 := ⟨_, rfl⟩
          have i_14 : x_14.toInt = of.toInt + 1 := ki_add ex_14 rfl rfl (om_381 LP1_h1 (Int.natCast_nonneg _)) (by omega)
          refine lv_iinc (v := x_14) (lv' := [(6, .int x_14), (7, .int i), (5, .int far), (0, .ref m_), (1, .int p0), (2, .int p1), (3, .int p2), (4, .int p3)]) hx hb dX4_farthestHeavy_35 hl (k := 1) rfl (by rw [ex_14]; rfl) (by decide) rfl (fun ls hl => ?_)
          refine lv_iload hx hb dX4_farthestHeavy_38 (lv_at hl 0 rfl) ?_
          refine lv_iload hx hb dX4_farthestHeavy_40 (lv_at hl 1 rfl) ?_
          refine lv_iconst (v := 1) hx hb dX4_farthestHeavy_42 (by decide) ?_
          refine lv_iadd hx hb dX4_farthestHeavy_43 ?_
          refine lv_topi (fun y_15 ey_15 => ?_)
          have i_15 : y_15.toInt = i.toInt + 1 := ki_add ey_15 rfl rfl (om_2 b0 LP1_h0) (om_238 a1 LP1_h3)
          refine lv_iload_n hx hb dX4_farthestHeavy_44 rfl (lv_at hl 5 rfl) ?_
          refine lv_isub hx hb dX4_farthestHeavy_45 ?_
          refine lv_topi (fun y_16 ey_16 => ?_)
          have i_16 : y_16.toInt = y_15.toInt - p1.toInt := ki_sub ey_16 rfl rfl (om_511 LP1_h0 i_15) (om_512 a1 b0 LP1_h3 i_15)
          refine lv_iload_n hx hb dX4_farthestHeavy_46 rfl (lv_at hl 6 rfl) ?_
          refine lv_iload hx hb dX4_farthestHeavy_47 (lv_at hl 7 rfl) ?_
          have hPc := hP.sub (ws' := []) [] rfl
          have hKc := hK.sub (tys' := []) [] rfl
          refine vp_callSi (W.runS (As := [.int x_14, .int y_16, .int p2, .int p3]) (rest := []) ⟨hx, hb, hml, hown, hts⟩ (c_X4_isHeavy_x l dC dI x_14 y_16 p2 p3 (om_382 LP1_h1 i_14 (Int.natCast_nonneg _)) (by omega) (om_513 LP1_h0 i_15 i_16) (om_514 a1 b0 LP1_h3 i_15 i_16) (om_51 b2) (om_515 b3 b4) (om_516 b2 b3) b4) (va_cwS 4 hts gX4_farthestHeavy_X4_isHeavy rfl rfl rfl (by decide +kernel) ⟨Nat.le_of_ble_eq_true rfl, Nat.le_of_ble_eq_true rfl⟩) ⟨fun a U g mk q => by obtain ⟨q0, qP, qK⟩ := q; exact ⟨q0, qP, va_K.moved (u := U) (U := U.calling g mk a) (Vm.Alike.refl U.vm) qK⟩, fun U hU hW => ⟨rfl, by rw [hU]; exact hPc, va_K.moved hW.alike hKc⟩⟩ rfl rfl hl.1 rfl (lv_room (Nat.le_of_ble_eq_true rfl)) dX4_farthestHeavy_49 ⟨Nat.le_of_ble_eq_true rfl, Nat.le_of_ble_eq_true rfl⟩) (fun r_17 w_17 => ?_)
          rcases w_17 with ⟨rfl, w_17⟩ | ⟨rfl, w_17⟩
          · have w_17 : p2.toInt * y_16.toInt < x_14.toInt * p3.toInt := w_17
            refine lv_if_eq (tgt := 61) hx hb dX4_farthestHeavy_52 (by decide) (fun c_18 => ?_) (fun c_18 => ?_)
            · exact absurd c_18 (by decide)
            · refine lv_iload hx hb dX4_farthestHeavy_55 (lv_at hl 1 rfl) ?_
              refine lv_iconst (v := 1) hx hb dX4_farthestHeavy_57 (by decide) ?_
              refine lv_iadd hx hb dX4_farthestHeavy_58 ?_
              refine lv_topi (fun y_19 ey_19 => ?_)
              have i_19 : y_19.toInt = i.toInt + 1 := ki_add ey_19 rfl rfl (om_2 b0 LP1_h0) (om_238 a1 LP1_h3)
              refine lv_istore (lv' := [(5, .int y_19), (6, .int x_14), (7, .int i), (0, .ref m_), (1, .int p0), (2, .int p1), (3, .int p2), (4, .int p3)]) hx hb dX4_farthestHeavy_59 hl (by decide) rfl (fun ls hl => ?_)
              obtain ⟨x_20, ex_20⟩ : ∃ y : Int32, y = i + 1 := ⟨_, rfl⟩
              have i_20 : x_20.toInt = i.toInt + 1 := ki_add ex_20 rfl rfl (om_2 b0 LP1_h0) (om_238 a1 LP1_h3)
              refine lv_iinc (v := x_20) (lv' := [(7, .int x_20), (5, .int y_19), (6, .int x_14), (0, .ref m_), (1, .int p0), (2, .int p1), (3, .int p2), (4, .int p3)]) hx hb dX4_farthestHeavy_61 hl (k := 2) rfl (by rw [ex_20]; rfl) (by decide) rfl (fun ls hl => ?_)
              refine lv_goto (tgt := 9) hx hb dX4_farthestHeavy_64 (by decide) ?_
              have n_21 := ki_nat x_20 rfl (om_89 b0 LP1_h0 i_20)
              have st : cnt f p0 p1.toNatClampNeg (x_20.toNatClampNeg - p1.toNatClampNeg) = cnt f p0 p1.toNatClampNeg (i.toNatClampNeg - p1.toNatClampNeg) + 1 := cnt_hit1 (by rw [show p1.toNatClampNeg + (i.toNatClampNeg - p1.toNatClampNeg) = i.toNatClampNeg by omega]; exact ey_2.symm.trans c_3) (by omega)
              have q_o : (cnt f p0 p1.toNatClampNeg (x_20.toNatClampNeg - p1.toNatClampNeg) : Int) = x_14.toInt := by rw [st]; omega
              have q_l : ((x_20.toNatClampNeg : Nat) : Int) - ((p1.toNatClampNeg : Nat) : Int) = y_16.toInt := by omega
              exact ih1 x_20 y_19 x_14 (om_4 LP1_h0 i_20) (by rw [st]; omega) (mj_lst_yes (hi := i.toNatClampNeg) (by omega) (by omega) (by (try dsimp only); unfold mj_hv; rw [q_o, q_l]; exact w_17) (by omega)) (om_54 i_1 i_20) (om_mu hn1 (om_5 i_20) (om_6 i_1)) ls (lv_sub hl [0, 2, 1, 3, 4, 5, 6, 7] rfl)
          · have w_17 : x_14.toInt * p3.toInt ≤ p2.toInt * y_16.toInt := w_17
            refine lv_if_eq (tgt := 61) hx hb dX4_farthestHeavy_52 (by decide) (fun c_22 => ?_) (fun c_22 => ?_)
            · obtain ⟨x_23, ex_23⟩ : ∃ y : Int32, y = i + 1 := ⟨_, rfl⟩
              have i_23 : x_23.toInt = i.toInt + 1 := ki_add ex_23 rfl rfl (om_2 b0 LP1_h0) (om_238 a1 LP1_h3)
              refine lv_iinc (v := x_23) (lv' := [(7, .int x_23), (6, .int x_14), (5, .int far), (0, .ref m_), (1, .int p0), (2, .int p1), (3, .int p2), (4, .int p3)]) hx hb dX4_farthestHeavy_61 hl (k := 1) rfl (by rw [ex_23]; rfl) (by decide) rfl (fun ls hl => ?_)
              refine lv_goto (tgt := 9) hx hb dX4_farthestHeavy_64 (by decide) ?_
              have n_24 := ki_nat x_23 rfl (om_89 b0 LP1_h0 i_23)
              have st : cnt f p0 p1.toNatClampNeg (x_23.toNatClampNeg - p1.toNatClampNeg) = cnt f p0 p1.toNatClampNeg (i.toNatClampNeg - p1.toNatClampNeg) + 1 := cnt_hit1 (by rw [show p1.toNatClampNeg + (i.toNatClampNeg - p1.toNatClampNeg) = i.toNatClampNeg by omega]; exact ey_2.symm.trans c_3) (by omega)
              have q_o : (cnt f p0 p1.toNatClampNeg (x_23.toNatClampNeg - p1.toNatClampNeg) : Int) = x_14.toInt := by rw [st]; omega
              have q_l : ((x_23.toNatClampNeg : Nat) : Int) - ((p1.toNatClampNeg : Nat) : Int) = y_16.toInt := by omega
              exact ih1 x_23 far x_14 (om_4 LP1_h0 i_23) (by rw [st]; omega) (mj_lst_no LP1_h2 (by omega) (by (try dsimp only); unfold mj_hv; rw [q_o, q_l]; omega)) (om_54 i_1 i_23) (om_mu hn1 (om_5 i_23) (om_6 i_1)) ls (lv_sub hl [0, 1, 2, 3, 4, 5, 6, 7] rfl)
            · exact absurd c_22 (by decide)
  have k_25 : ((-1) : Int32).toInt = -1 := rfl
  have k_26 : (0 : Int32).toInt = 0 := rfl
  exact LP1 ((len.toInt - p1.toInt : Int).toNat + 1) p1 (-1) 0 om_7 (by rw [show p1.toNatClampNeg - p1.toNatClampNeg = 0 by omega]; rfl) (Or.inr ⟨rfl, fun k h1 h2 => by omega⟩) (om_9 b1) (Nat.lt_succ_self _) ls (lv_sub hl [0, 1, 2, 3, 4, 5, 6, 7] rfl)

set_option maxHeartbeats 4000000 in
set_option maxRecDepth 100000 in
theorem c_X4_longest_x (l : Launch) (dC : Nat → ClassId) (dI : Nat → Nat → Nat) (m_ : Nat) (q_row : Nat) (q_t : Nat) (t_ : Nat) (h0 : Nat) (k0 : Nat) (w_ : Nat) (z_ : Nat) (slots : Int32) (old : Int32) (q_cell : Nat) (cyI : ClassId) (len : Int32) (f : Nat → Int32) (p0 : Int32) (p1 : Int32) (p2 : Int32) (p3 : Int32) (a0 : 0 ≤ len.toInt) (a1 : len.toInt ≤ 160) : Met l yX4_longest wsX4_longest ({ frames := 2, cells := 0, slots := 0, locals := 90 }) (va_Pc [.ref m_, .int p0, .int p1, .int p2, .int p3] (fun U => va_P (dC, dI) vwCl [kx_4 m_ q_row q_t t_ h0 k0 w_ z_ slots old, kx_0 q_row q_cell len, kx_a q_cell cyI 160 f] U.heap ∧ va_K (dC, dI) vwCl [(cyI, .int)] U)) (vp_Si (fun r : Int32 => ((-32768 ≤ p0.toInt ∧ p0.toInt ≤ 32767 ∧ 1 ≤ p1.toInt ∧ p1.toInt ≤ p2.toInt ∧ p2.toInt ≤ 999 ∧ 0 ≤ p3.toInt ∧ p3.toInt ≤ 1) ∧ mj_ex2 (fun bl br => mj_lg (mj_hv f p0 p1.toInt p2.toInt) (mj_D len.toNatClampNeg len.toNatClampNeg) bl br) p3.toInt 0 1 r.toInt) ∨ ((p0.toInt < -32768 ∨ 32767 < p0.toInt ∨ p1.toInt < 1 ∨ p2.toInt < p1.toInt ∨ 999 < p2.toInt ∨ p3.toInt < 0 ∨ 1 < p3.toInt) ∧ r = -1))) 0 0 (fun _ => False) := by
  refine kx_stS (ws := wsX4_longest) (cc := cX4_longest) (maxL := 9) (ret := (some .int)) (by decide) rfl (Nat.le_of_ble_eq_true rfl) ?_
  intro p e s m below meth c ls hx hb hr hlocks hts hown hml hP hK hl
  have hown : s.vm.findClass RX4 = some m.cls := hown
  have hl : lv_has ls 9 [(0, .ref m_), (1, .int p0), (2, .int p1), (3, .int p2), (4, .int p3)] := hl
  have hf_12 := hts (.fieldLink RX4 12 "MajorityIndex" "row" "LMajorityIndex$Row;") (List.mem_of_getElem? (i := 1) rfl)
  have hi_4 : ∀ w ∈ u_ws RX4 TX4 9, w ∈ wsX4_longest := fun w h => List.mem_cons_of_mem _ (List.mem_append_left _ (List.mem_append_right _ h))
  have hf_57 := hts (.fieldLink RX4 57 "MajorityIndex$Row" "length" "I") (List.mem_of_getElem? (i := 2) rfl)
  have hi_0 : ∀ w ∈ u_ws RX0 TX0 2, w ∈ wsX4_longest := fun w h => List.mem_cons_of_mem _ (List.mem_append_right _ h)
  refine lv_iload_n hx hb dX4_longest_0 rfl (lv_at hl 1 rfl) ?_
  have hPc := hP.sub (ws' := []) [] rfl
  have hKc := hK.sub (tys' := []) [] rfl
  refine vp_callSi (W.runS (As := [.int p0]) (rest := []) ⟨hx, hb, hml, hown, hts⟩ (c_X4_isValue l dC dI p0) (va_cwS 1 hts gX4_longest_X4_isValue rfl rfl rfl (by decide +kernel) ⟨Nat.le_of_ble_eq_true rfl, Nat.le_of_ble_eq_true rfl⟩) ⟨fun a U g mk q => by obtain ⟨q0, qP, qK⟩ := q; exact ⟨q0, qP, va_K.moved (u := U) (U := U.calling g mk a) (Vm.Alike.refl U.vm) qK⟩, fun U hU hW => ⟨rfl, by rw [hU]; exact hPc, va_K.moved hW.alike hKc⟩⟩ rfl rfl hl.1 rfl (lv_room (Nat.le_of_ble_eq_true rfl)) dX4_longest_1 ⟨Nat.le_of_ble_eq_true rfl, Nat.le_of_ble_eq_true rfl⟩) (fun r_1 w_1 => ?_)
  rcases w_1 with ⟨rfl, w_1⟩ | ⟨rfl, w_1⟩
  · have w_1 : (-32768 ≤ p0.toInt ∧ p0.toInt ≤ 32767) := w_1
    refine lv_if_eq (tgt := 26) hx hb dX4_longest_4 (by decide) (fun c_2 => ?_) (fun c_2 => ?_)
    · exact absurd c_2 (by decide)
    · refine lv_iload_n hx hb dX4_longest_7 rfl (lv_at hl 2 rfl) ?_
      refine lv_iload_n hx hb dX4_longest_8 rfl (lv_at hl 3 rfl) ?_
      have hPc := hP.sub (ws' := []) [] rfl
      have hKc := hK.sub (tys' := []) [] rfl
      refine vp_callSi (W.runS (As := [.int p1, .int p2]) (rest := []) ⟨hx, hb, hml, hown, hts⟩ (c_X4_isShare l dC dI p1 p2) (va_cwS 2 hts gX4_longest_X4_isShare rfl rfl rfl (by decide +kernel) ⟨Nat.le_of_ble_eq_true rfl, Nat.le_of_ble_eq_true rfl⟩) ⟨fun a U g mk q => by obtain ⟨q0, qP, qK⟩ := q; exact ⟨q0, qP, va_K.moved (u := U) (U := U.calling g mk a) (Vm.Alike.refl U.vm) qK⟩, fun U hU hW => ⟨rfl, by rw [hU]; exact hPc, va_K.moved hW.alike hKc⟩⟩ rfl rfl hl.1 rfl (lv_room (Nat.le_of_ble_eq_true rfl)) dX4_longest_9 ⟨Nat.le_of_ble_eq_true rfl, Nat.le_of_ble_eq_true rfl⟩) (fun r_3 w_3 => ?_)
      rcases w_3 with ⟨rfl, w_3⟩ | ⟨rfl, w_3⟩
      · have w_3 : (1 ≤ p1.toInt ∧ p1.toInt ≤ p2.toInt ∧ p2.toInt ≤ 999) := w_3
        refine lv_if_eq (tgt := 26) hx hb dX4_longest_12 (by decide) (fun c_4 => ?_) (fun c_4 => ?_)
        · exact absurd c_4 (by decide)
        · refine lv_iload hx hb dX4_longest_15 (lv_at hl 4 rfl) ?_
          refine lv_if_lt (tgt := 26) hx hb dX4_longest_17 (by decide) (fun c_5 => ?_) (fun c_5 => ?_)
          · have i_5 : p3.toInt < 0 := kc_lt c_5
            refine lv_iconst (v := (-1)) hx hb dX4_longest_26 (by decide) ?_
            exact W.iret (v := (-1)) hx hb hr (hlocks := hlocks) (fun t ht hW => ⟨(-1), rfl, (Or.inr ⟨(by (try dsimp only); omega), rfl⟩), ht⟩) (fun q hq => by cases hq) dX4_longest_27
          · have i_5 : 0 ≤ p3.toInt := kc_nlt c_5
            refine lv_iload hx hb dX4_longest_20 (lv_at hl 4 rfl) ?_
            refine lv_iconst (v := 1) hx hb dX4_longest_22 (by decide) ?_
            refine lv_icmp_le (tgt := 28) hx hb dX4_longest_23 (by decide) (fun c_6 => ?_) (fun c_6 => ?_)
            · have i_6 : p3.toInt ≤ 1 := kc_le c_6
              have n_l := ki_nat len rfl (om_10 a0)
              refine lv_iconst (v := (-1)) hx hb dX4_longest_28 (by decide) ?_
              refine lv_istore (lv' := [(5, .int (-1)), (0, .ref m_), (1, .int p0), (2, .int p1), (3, .int p2), (4, .int p3)]) hx hb dX4_longest_29 hl (by decide) rfl (fun ls hl => ?_)
              refine lv_iconst (v := (-1)) hx hb dX4_longest_31 (by decide) ?_
              refine lv_istore (lv' := [(6, .int (-1)), (5, .int (-1)), (0, .ref m_), (1, .int p0), (2, .int p1), (3, .int p2), (4, .int p3)]) hx hb dX4_longest_32 hl (by decide) rfl (fun ls hl => ?_)
              refine lv_iconst (v := 0) hx hb dX4_longest_34 (by decide) ?_
              refine lv_istore (lv' := [(7, .int 0), (6, .int (-1)), (5, .int (-1)), (0, .ref m_), (1, .int p0), (2, .int p1), (3, .int p2), (4, .int p3)]) hx hb dX4_longest_35 hl (by decide) rfl (fun ls hl => ?_)
              have LP1 : ∀ (n : Nat) (i : Int32) (bf : Int32) (bt : Int32), (0 ≤ i.toInt) → (mj_lg (mj_hv f p0 p1.toInt p2.toInt) (mj_D len.toNatClampNeg i.toNatClampNeg) bf.toInt bt.toInt) → (i.toInt ≤ len.toInt) → (-1 ≤ bf.toInt) → (bf.toInt ≤ 160) → (-1 ≤ bt.toInt) → (bt.toInt ≤ 160) → (len.toInt - i.toInt).toNat < n → ∀ (ls : Array Slot), lv_has ls 9 [(7, .int i), (6, .int bt), (5, .int bf), (0, .ref m_), (1, .int p0), (2, .int p1), (3, .int p2), (4, .int p3)] → W p l e (headSpec wsX4_longest ({ frames := 2, cells := 0, slots := 0, locals := 90 })).room s m ([.ref m_, .int p0, .int p1, .int p2, .int p3] : List Value).toArray below meth c s.heap [] 0 0 (MQ below (vp_Si (fun r : Int32 => ((-32768 ≤ p0.toInt ∧ p0.toInt ≤ 32767 ∧ 1 ≤ p1.toInt ∧ p1.toInt ≤ p2.toInt ∧ p2.toInt ≤ 999 ∧ 0 ≤ p3.toInt ∧ p3.toInt ≤ 1) ∧ mj_ex2 (fun bl br => mj_lg (mj_hv f p0 p1.toInt p2.toInt) (mj_D len.toNatClampNeg len.toNatClampNeg) bl br) p3.toInt 0 1 r.toInt) ∨ ((p0.toInt < -32768 ∨ 32767 < p0.toInt ∨ p1.toInt < 1 ∨ p2.toInt < p1.toInt ∨ 999 < p2.toInt ∨ p3.toInt < 0 ∨ 1 < p3.toInt) ∧ r = -1))) ([.ref m_, .int p0, .int p1, .int p2, .int p3] : List Value).toArray s 0 0 (fun _ => False)) (F0 m 37 ls []) := by
                intro n
                induction n with
                | zero => intro i bf bt LP1_h0 LP1_h1 LP1_h2 LP1_h3 LP1_h4 LP1_h5 LP1_h6 hn; exact absurd hn (Nat.not_lt_zero _)
                | succ n ih1 =>
                  intro i bf bt LP1_h0 LP1_h1 LP1_h2 LP1_h3 LP1_h4 LP1_h5 LP1_h6 hn1 ls hl
                  have n_i := ki_nat i rfl (om_10 LP1_h0)
                  refine lv_iload hx hb dX4_longest_37 (lv_at hl 0 rfl) ?_
                  refine lv_aload_n hx hb dX4_longest_39 rfl (lv_at hl 3 rfl) ?_
                  refine va_get (D := (dC, dI)) (ci := 4) (v := .ref q_row) (C := RX4) (T := TX4) (N := 9) hx hb hts hi_4 hown hK hP 0 rfl rfl 0 (by decide) hf_12 (fun _ h9 => h9) rfl dX4_longest_40 ?_
                  refine va_get (D := (dC, dI)) (ci := 0) (v := .int len) (C := RX0) (T := TX0) (N := 2) hx hb hts hi_0 hown hK hP 1 rfl rfl 1 (by decide) hf_57 (fun _ h9 => h9) rfl dX4_longest_43 ?_
                  refine lv_icmp_ge (tgt := 93) hx hb dX4_longest_46 (by decide) (fun c_7 => ?_) (fun c_7 => ?_)
                  · have i_7 : len.toInt ≤ i.toInt := kc_le c_7
                    refine lv_iload hx hb dX4_longest_93 (lv_at hl 7 rfl) ?_
                    refine lv_if_ne (tgt := 103) hx hb dX4_longest_95 (by decide) (fun c_8 => ?_) (fun c_8 => ?_)
                    · have i_8 : ¬ p3.toInt = 0 := kc_ne c_8
                      refine lv_iload hx hb dX4_longest_103 (lv_at hl 1 rfl) ?_
                      have q_i : i.toNatClampNeg = len.toNatClampNeg := by omega
                      have h_l := LP1_h1
                      have h_l : mj_lg (mj_hv f p0 p1.toInt p2.toInt) (mj_D len.toNatClampNeg len.toNatClampNeg) bf.toInt bt.toInt := by rw [q_i] at h_l; exact h_l
                      exact W.iret (v := bt) hx hb hr (hlocks := hlocks) (fun t ht hW => ⟨bt, rfl, (Or.inl ⟨(by (try dsimp only); omega), bf.toInt, bt.toInt, h_l, (by (try dsimp only); omega)⟩), ht⟩) (fun q hq => by cases hq) dX4_longest_105
                    · have i_8 : p3.toInt = 0 := kc_eq c_8
                      refine lv_iload hx hb dX4_longest_98 (lv_at hl 2 rfl) ?_
                      refine lv_goto (tgt := 105) hx hb dX4_longest_100 (by decide) ?_
                      have q_i : i.toNatClampNeg = len.toNatClampNeg := by omega
                      have h_l := LP1_h1
                      have h_l : mj_lg (mj_hv f p0 p1.toInt p2.toInt) (mj_D len.toNatClampNeg len.toNatClampNeg) bf.toInt bt.toInt := by rw [q_i] at h_l; exact h_l
                      exact W.iret (v := bf) hx hb hr (hlocks := hlocks) (fun t ht hW => ⟨bf, rfl, (Or.inl ⟨(by (try dsimp only); omega), bf.toInt, bt.toInt, h_l, (by (try dsimp only); omega)⟩), ht⟩) (fun q hq => by cases hq) dX4_longest_105
                  · have i_7 : i.toInt < len.toInt := kc_nle c_7
                    refine lv_aload_n hx hb dX4_longest_49 rfl (lv_at hl 3 rfl) ?_
                    refine lv_iload_n hx hb dX4_longest_50 rfl (lv_at hl 4 rfl) ?_
                    refine lv_iload hx hb dX4_longest_51 (lv_at hl 0 rfl) ?_
                    refine lv_iload_n hx hb dX4_longest_53 rfl (lv_at hl 5 rfl) ?_
                    refine lv_iload_n hx hb dX4_longest_54 rfl (lv_at hl 6 rfl) ?_
                    have hPc := hP
                    have hKc := hK
                    refine vp_callSi (W.runV (As := [.int p0, .int i, .int p1, .int p2]) (rest := []) ⟨hx, hb, hml, hown, hts⟩ (c_X4_farthestHeavy_x l dC dI m_ q_row q_t t_ h0 k0 w_ z_ slots old q_cell cyI len f p0 i p1 p2 a0 a1 LP1_h0 LP1_h2 (om_151 w_3.1) (om_9 w_3.2.1) (om_152 w_3.2.2)) (cwV 4 hts gX4_longest_X4_farthestHeavy rfl rfl rfl (by decide +kernel) ⟨Nat.le_of_ble_eq_true rfl, Nat.le_of_ble_eq_true rfl⟩) ⟨fun a U g mk q => by obtain ⟨q0, qP, qK⟩ := q; exact ⟨q0, qP, va_K.moved (u := U) (U := U.calling g mk a) (Vm.Alike.refl U.vm) qK⟩, kx_rc4 hKc hPc (q0 := 0) rfl, fun U hU hW => ⟨rfl, by rw [hU]; exact hPc, va_K.moved hW.alike hKc⟩⟩ rfl rfl hl.1 rfl (lv_room (Nat.le_of_ble_eq_true rfl)) dX4_longest_55 ⟨Nat.le_of_ble_eq_true rfl, Nat.le_of_ble_eq_true rfl⟩) (fun r_9 w_9 => ?_)
                    have w_9 : mj_lst (mj_hv f p0 p1.toInt p2.toInt i.toNatClampNeg) i.toNatClampNeg len.toNatClampNeg r_9.toInt := w_9
                    have h_r : r_9.toInt = -1 ∨ (i.toInt < r_9.toInt ∧ r_9.toInt ≤ len.toInt) := by rcases w_9 with ⟨m, a1, a2, a3, a4, a5⟩ | ⟨a1, a2⟩; exact Or.inr ⟨by omega, by omega⟩; exact Or.inl a1
                    refine lv_istore (lv' := [(8, .int r_9), (7, .int i), (6, .int bt), (5, .int bf), (0, .ref m_), (1, .int p0), (2, .int p1), (3, .int p2), (4, .int p3)]) hx hb dX4_longest_58 hl (by decide) rfl (fun ls hl => ?_)
                    refine lv_iload hx hb dX4_longest_60 (lv_at hl 0 rfl) ?_
                    refine lv_iconst (v := (-1)) hx hb dX4_longest_62 (by decide) ?_
                    refine lv_icmp_eq (tgt := 87) hx hb dX4_longest_63 (by decide) (fun c_10 => ?_) (fun c_10 => ?_)
                    · have i_10 : r_9.toInt = (-1) := kc_eq c_10
                      obtain ⟨x_11, ex_11⟩ : ∃ y : Int32, y = i + 1 := ⟨_, rfl⟩
                      have i_11 : x_11.toInt = i.toInt + 1 := ki_add ex_11 rfl rfl (om_13 LP1_h0) (by omega)
                      refine lv_iinc (v := x_11) (lv' := [(7, .int x_11), (8, .int r_9), (6, .int bt), (5, .int bf), (0, .ref m_), (1, .int p0), (2, .int p1), (3, .int p2), (4, .int p3)]) hx hb dX4_longest_87 hl (k := 1) rfl (by rw [ex_11]; rfl) (by decide) rfl (fun ls hl => ?_)
                      refine lv_goto (tgt := 37) hx hb dX4_longest_90 (by decide) ?_
                      have n_12 := ki_nat x_11 rfl (om_34 LP1_h0 i_11)
                      exact ih1 x_11 bf bt (om_34 LP1_h0 i_11) (mj_lg_row LP1_h1 w_9 (by omega) (by omega)) (om_54 i_7 i_11) (om_517 LP1_h3) (om_136 LP1_h4) (om_517 LP1_h5) (om_136 LP1_h6) (om_mu hn1 (om_5 i_11) (om_6 i_7)) ls (lv_sub hl [0, 2, 3, 4, 5, 6, 7, 8] rfl)
                    · have i_10 : ¬ r_9.toInt = (-1) := kc_ne c_10
                      refine lv_iload hx hb dX4_longest_66 (lv_at hl 0 rfl) ?_
                      refine lv_iload hx hb dX4_longest_68 (lv_at hl 1 rfl) ?_
                      refine lv_isub hx hb dX4_longest_70 ?_
                      refine lv_topi (fun y_13 ey_13 => ?_)
                      have i_13 : y_13.toInt = r_9.toInt - i.toInt := ki_sub ey_13 rfl rfl (by omega) (by omega)
                      refine lv_iload hx hb dX4_longest_71 (lv_at hl 2 rfl) ?_
                      refine lv_iload hx hb dX4_longest_73 (lv_at hl 3 rfl) ?_
                      refine lv_isub hx hb dX4_longest_75 ?_
                      refine lv_topi (fun y_14 ey_14 => ?_)
                      have i_14 : y_14.toInt = bt.toInt - bf.toInt := ki_sub ey_14 rfl rfl (om_518 LP1_h4 LP1_h5) (om_519 LP1_h3 LP1_h6)
                      refine lv_icmp_le (tgt := 87) hx hb dX4_longest_76 (by decide) (fun c_15 => ?_) (fun c_15 => ?_)
                      · have i_15 : y_13.toInt ≤ y_14.toInt := kc_le c_15
                        obtain ⟨x_16, ex_16⟩ : ∃ y : Int32, y = i + 1 := ⟨_, rfl⟩
                        have i_16 : x_16.toInt = i.toInt + 1 := ki_add ex_16 rfl rfl (om_13 LP1_h0) (by omega)
                        refine lv_iinc (v := x_16) (lv' := [(7, .int x_16), (8, .int r_9), (6, .int bt), (5, .int bf), (0, .ref m_), (1, .int p0), (2, .int p1), (3, .int p2), (4, .int p3)]) hx hb dX4_longest_87 hl (k := 1) rfl (by rw [ex_16]; rfl) (by decide) rfl (fun ls hl => ?_)
                        refine lv_goto (tgt := 37) hx hb dX4_longest_90 (by decide) ?_
                        have n_17 := ki_nat x_16 rfl (om_34 LP1_h0 i_16)
                        exact ih1 x_16 bf bt (om_34 LP1_h0 i_16) (mj_lg_row LP1_h1 w_9 (by omega) (by omega)) (om_54 i_7 i_16) (om_517 LP1_h3) (om_136 LP1_h4) (om_517 LP1_h5) (om_136 LP1_h6) (om_mu hn1 (om_5 i_16) (om_6 i_7)) ls (lv_sub hl [0, 2, 3, 4, 5, 6, 7, 8] rfl)
                      · have i_15 : y_14.toInt < y_13.toInt := kc_nle c_15
                        refine lv_iload hx hb dX4_longest_79 (lv_at hl 1 rfl) ?_
                        refine lv_istore (lv' := [(5, .int i), (8, .int r_9), (7, .int i), (6, .int bt), (0, .ref m_), (1, .int p0), (2, .int p1), (3, .int p2), (4, .int p3)]) hx hb dX4_longest_81 hl (by decide) rfl (fun ls hl => ?_)
                        refine lv_iload hx hb dX4_longest_83 (lv_at hl 1 rfl) ?_
                        refine lv_istore (lv' := [(6, .int r_9), (5, .int i), (8, .int r_9), (7, .int i), (0, .ref m_), (1, .int p0), (2, .int p1), (3, .int p2), (4, .int p3)]) hx hb dX4_longest_85 hl (by decide) rfl (fun ls hl => ?_)
                        obtain ⟨x_18, ex_18⟩ : ∃ y : Int32, y = i + 1 := ⟨_, rfl⟩
                        have i_18 : x_18.toInt = i.toInt + 1 := ki_add ex_18 rfl rfl (om_13 LP1_h0) (by omega)
                        refine lv_iinc (v := x_18) (lv' := [(7, .int x_18), (6, .int r_9), (5, .int i), (8, .int r_9), (0, .ref m_), (1, .int p0), (2, .int p1), (3, .int p2), (4, .int p3)]) hx hb dX4_longest_87 hl (k := 3) rfl (by rw [ex_18]; rfl) (by decide) rfl (fun ls hl => ?_)
                        refine lv_goto (tgt := 37) hx hb dX4_longest_90 (by decide) ?_
                        have n_19 := ki_nat x_18 rfl (om_34 LP1_h0 i_18)
                        exact ih1 x_18 i r_9 (om_34 LP1_h0 i_18) (mj_lg_row LP1_h1 w_9 (by omega) (by omega)) (om_54 i_7 i_18) (om_520 LP1_h0) (by omega) (by omega) (by omega) (om_mu hn1 (om_5 i_18) (om_6 i_7)) ls (lv_sub hl [0, 1, 2, 4, 5, 6, 7, 8] rfl)
              have k_20 : (0 : Int32).toInt = 0 := rfl
              have k_21 : ((-1) : Int32).toInt = -1 := rfl
              have k_22 : ((-1) : Int32).toInt = -1 := rfl
              exact LP1 ((len.toInt - 0 : Int).toNat + 1) 0 (-1) (-1) om_35 (Or.inl ⟨rfl, rfl, fun l r h => absurd h.1 (Nat.not_lt_zero l)⟩) (om_10 a0) om_521 om_522 om_521 om_522 (Nat.lt_succ_self _) ls (lv_sub hl [0, 1, 2, 3, 4, 5, 6, 7] rfl)
            · have i_6 : 1 < p3.toInt := kc_nle c_6
              refine lv_iconst (v := (-1)) hx hb dX4_longest_26 (by decide) ?_
              exact W.iret (v := (-1)) hx hb hr (hlocks := hlocks) (fun t ht hW => ⟨(-1), rfl, (Or.inr ⟨(by (try dsimp only); omega), rfl⟩), ht⟩) (fun q hq => by cases hq) dX4_longest_27
      · have w_3 : (p1.toInt < 1 ∨ p2.toInt < p1.toInt ∨ 999 < p2.toInt) := w_3
        refine lv_if_eq (tgt := 26) hx hb dX4_longest_12 (by decide) (fun c_23 => ?_) (fun c_23 => ?_)
        · refine lv_iconst (v := (-1)) hx hb dX4_longest_26 (by decide) ?_
          exact W.iret (v := (-1)) hx hb hr (hlocks := hlocks) (fun t ht hW => ⟨(-1), rfl, (Or.inr ⟨(by (try dsimp only); omega), rfl⟩), ht⟩) (fun q hq => by cases hq) dX4_longest_27
        · exact absurd c_23 (by decide)
  · have w_1 : (p0.toInt < -32768 ∨ 32767 < p0.toInt) := w_1
    refine lv_if_eq (tgt := 26) hx hb dX4_longest_4 (by decide) (fun c_24 => ?_) (fun c_24 => ?_)
    · refine lv_iconst (v := (-1)) hx hb dX4_longest_26 (by decide) ?_
      exact W.iret (v := (-1)) hx hb hr (hlocks := hlocks) (fun t ht hW => ⟨(-1), rfl, (Or.inr ⟨(by (try dsimp only); omega), rfl⟩), ht⟩) (fun q hq => by cases hq) dX4_longest_27
    · exact absurd c_24 (by decide)

set_option maxHeartbeats 4000000 in
set_option maxRecDepth 100000 in
theorem c_X5_longest_x (l : Launch) (dC : Nat → ClassId) (dI : Nat → Nat → Nat) (h0 : Nat) (g_row : Nat) (g_many : Nat) (g_loss : Nat) (g_less : Nat) (g_voteValue : Nat) (g_voteNumber : Nat) (g_allValue : Nat) (g_allNumber : Nat) (g_nodeL : Nat) (g_nodeR : Nat) (g_part : Nat) (g_wasMany : Nat) (g_wasLoss : Nat) (g_wasValue : Nat) (g_wasNumber : Nat) (g_path : Nat) (g_heavyValue : Nat) (g_heavyTimes : Nat) (g_fewest : Nat) (g_which : Nat) (g_met : Nat) (m_n : Int32) (m_slots : Int32) (m_thrown : Int32) (m_allMany : Int32) (m_nodes : Int32) (m_partMany : Int32) (m_pathMany : Int32) (m_heavyMany : Int32) (m_mostMet : Int32) (cyI : ClassId) (f : Nat → Int32) (p0 : Int32) (p1 : Int32) (p2 : Int32) (p3 : Int32) (sz : Nat) (a0 : 0 ≤ m_n.toInt) (a1 : m_n.toInt ≤ 160) : kx_MQ l (dC, dI) yX5_longest wsX5_longest ({ frames := 2, cells := 0, slots := 0, locals := 90 }) [.ref h0, .int p0, .int p1, .int p2, .int p3] [kx_5 h0 g_row m_n m_slots m_thrown g_many g_loss g_less g_voteValue g_voteNumber g_allValue g_allNumber m_allMany g_nodeL g_nodeR m_nodes g_part m_partMany g_wasMany g_wasLoss g_wasValue g_wasNumber g_path m_pathMany g_heavyValue g_heavyTimes m_heavyMany g_fewest g_which g_met m_mostMet, kx_a g_row cyI 160 f] [(cyI, .int)] sz (fun A => va_Qi (fun (r : Int32) (_ : Unit) => ((-32768 ≤ p0.toInt ∧ p0.toInt ≤ 32767 ∧ 1 ≤ p1.toInt ∧ p1.toInt ≤ p2.toInt ∧ p2.toInt ≤ 999 ∧ 0 ≤ p3.toInt ∧ p3.toInt ≤ 1) ∧ mj_ex2 (fun bl br => mj_lg (mj_hv f p0 p1.toInt p2.toInt) (mj_D m_n.toNatClampNeg m_n.toNatClampNeg) bl br) p3.toInt 0 1 r.toInt) ∨ ((p0.toInt < -32768 ∨ 32767 < p0.toInt ∨ p1.toInt < 1 ∨ p2.toInt < p1.toInt ∨ 999 < p2.toInt ∨ p3.toInt < 0 ∨ 1 < p3.toInt) ∧ r = -1)) (fun (_ : Unit) (t : State) => va_P (dC, dI) vwCl [kx_5 h0 g_row m_n m_slots 0 g_many g_loss g_less g_voteValue g_voteNumber g_allValue g_allNumber m_allMany g_nodeL g_nodeR m_nodes g_part m_partMany g_wasMany g_wasLoss g_wasValue g_wasNumber g_path m_pathMany g_heavyValue g_heavyTimes m_heavyMany g_fewest g_which g_met m_mostMet, kx_a g_row cyI 160 f] t.heap ∧ va_K (dC, dI) vwCl [(cyI, .int)] t ∧ va_D A [kx_5 h0 g_row m_n m_slots 0 g_many g_loss g_less g_voteValue g_voteNumber g_allValue g_allNumber m_allMany g_nodeL g_nodeR m_nodes g_part m_partMany g_wasMany g_wasLoss g_wasValue g_wasNumber g_path m_pathMany g_heavyValue g_heavyTimes m_heavyMany g_fewest g_which g_met m_mostMet, kx_a g_row cyI 160 f]) A) := by
  refine kx_stQ (ws := wsX5_longest) (cc := cX5_longest) (maxL := 10) (ret := (some .int)) (by decide) rfl (Nat.le_of_ble_eq_true rfl) ?_
  intro p e s m below meth c A ls hx hb hr hlocks hts hown hml hA hS hP hK hD hl
  have hown : s.vm.findClass RX5 = some m.cls := hown
  have hl : lv_has ls 10 [(0, .ref h0), (1, .int p0), (2, .int p1), (3, .int p2), (4, .int p3)] := hl
  have hf_77 := hts (.fieldLink RX5 77 "MajorityIndexModel" "thrown" "I") (List.mem_of_getElem? (i := 1) rfl)
  have hi_5 : ∀ w ∈ u_ws RX5 TX5 30, w ∈ wsX5_longest := fun w h => List.mem_cons_of_mem _ (List.mem_append_right _ h)
  have hf_84 := hts (.fieldLink RX5 84 "MajorityIndexModel" "n" "I") (List.mem_of_getElem? (i := 2) rfl)
  have hf_7 := hts (.fieldLink RX5 7 "MajorityIndexModel" "row" "[I") (List.mem_of_getElem? (i := 3) rfl)
  refine lv_aload_n hx hb dX5_longest_0 rfl (lv_at hl 0 rfl) ?_
  refine lv_iconst (v := 0) hx hb dX5_longest_1 (by decide) ?_
  refine va_put (D := (dC, dI)) (ci := 5) (v := .int 0) (ty := .int) (C := RX5) (T := TX5) (N := 30) hx hb hts hi_5 tyX5 tyX5_ok nmX5 hown hK hP hD hS 0 rfl rfl 3 (by decide) hf_77 (fun _ h9 => h9) rfl (by decide +kernel) rfl rfl (Nat.le_of_ble_eq_true rfl) dX5_longest_2 (fun H locs hP hD hS => ?_)
  obtain ⟨hP, hD⟩ := kx_re (w2 := [kx_5 h0 g_row m_n m_slots 0 g_many g_loss g_less g_voteValue g_voteNumber g_allValue g_allNumber m_allMany g_nodeL g_nodeR m_nodes g_part m_partMany g_wasMany g_wasLoss g_wasValue g_wasNumber g_path m_pathMany g_heavyValue g_heavyTimes m_heavyMany g_fewest g_which g_met m_mostMet, kx_a g_row cyI 160 f]) hP hD rfl
  refine lv_iload_n hx hb dX5_longest_5 rfl (lv_at hl 1 rfl) ?_
  have hPc := hP.sub (ws' := []) [] rfl
  have hKc := hK.sub (tys' := []) [] rfl
  refine vp_callSi (W.runS (As := [.int p0]) (rest := []) ⟨hx, hb, hml, hown, hts⟩ (c_X5_isValue l dC dI p0) (va_cwS 1 hts gX5_longest_X5_isValue rfl rfl rfl (by decide +kernel) ⟨Nat.le_of_ble_eq_true rfl, Nat.le_of_ble_eq_true rfl⟩) ⟨fun a U g mk q => by obtain ⟨q0, qP, qK⟩ := q; exact ⟨q0, qP, va_K.moved (u := U) (U := U.calling g mk a) (Vm.Alike.refl U.vm) qK⟩, fun U hU hW => ⟨rfl, by rw [hU]; exact hPc, va_K.moved hW.alike hKc⟩⟩ rfl rfl hl.1 rfl (lv_room (Nat.le_of_ble_eq_true rfl)) dX5_longest_6 ⟨Nat.le_of_ble_eq_true rfl, Nat.le_of_ble_eq_true rfl⟩) (fun r_1 w_1 => ?_)
  rcases w_1 with ⟨rfl, w_1⟩ | ⟨rfl, w_1⟩
  · have w_1 : (-32768 ≤ p0.toInt ∧ p0.toInt ≤ 32767) := w_1
    refine lv_if_eq (tgt := 30) hx hb dX5_longest_9 (by decide) (fun c_2 => ?_) (fun c_2 => ?_)
    · exact absurd c_2 (by decide)
    · refine lv_iload_n hx hb dX5_longest_12 rfl (lv_at hl 2 rfl) ?_
      refine lv_iload_n hx hb dX5_longest_13 rfl (lv_at hl 3 rfl) ?_
      have hPc := hP.sub (ws' := []) [] rfl
      have hKc := hK.sub (tys' := []) [] rfl
      refine vp_callSi (W.runS (As := [.int p1, .int p2]) (rest := []) ⟨hx, hb, hml, hown, hts⟩ (c_X5_isShare l dC dI p1 p2) (va_cwS 2 hts gX5_longest_X5_isShare rfl rfl rfl (by decide +kernel) ⟨Nat.le_of_ble_eq_true rfl, Nat.le_of_ble_eq_true rfl⟩) ⟨fun a U g mk q => by obtain ⟨q0, qP, qK⟩ := q; exact ⟨q0, qP, va_K.moved (u := U) (U := U.calling g mk a) (Vm.Alike.refl U.vm) qK⟩, fun U hU hW => ⟨rfl, by rw [hU]; exact hPc, va_K.moved hW.alike hKc⟩⟩ rfl rfl hl.1 rfl (lv_room (Nat.le_of_ble_eq_true rfl)) dX5_longest_14 ⟨Nat.le_of_ble_eq_true rfl, Nat.le_of_ble_eq_true rfl⟩) (fun r_3 w_3 => ?_)
      rcases w_3 with ⟨rfl, w_3⟩ | ⟨rfl, w_3⟩
      · have w_3 : (1 ≤ p1.toInt ∧ p1.toInt ≤ p2.toInt ∧ p2.toInt ≤ 999) := w_3
        refine lv_if_eq (tgt := 30) hx hb dX5_longest_17 (by decide) (fun c_4 => ?_) (fun c_4 => ?_)
        · exact absurd c_4 (by decide)
        · refine lv_iload hx hb dX5_longest_20 (lv_at hl 4 rfl) ?_
          refine lv_iconst (v := 0) hx hb dX5_longest_22 (by decide) ?_
          refine lv_iconst (v := 1) hx hb dX5_longest_23 (by decide) ?_
          have hPc := hP.sub (ws' := []) [] rfl
          have hKc := hK.sub (tys' := []) [] rfl
          refine vp_callSi (W.runS (As := [.int p3, .int 0, .int 1]) (rest := []) ⟨hx, hb, hml, hown, hts⟩ (c_X5_within l dC dI p3 0 1) (va_cwS 3 hts gX5_longest_X5_within rfl rfl rfl (by decide +kernel) ⟨Nat.le_of_ble_eq_true rfl, Nat.le_of_ble_eq_true rfl⟩) ⟨fun a U g mk q => by obtain ⟨q0, qP, qK⟩ := q; exact ⟨q0, qP, va_K.moved (u := U) (U := U.calling g mk a) (Vm.Alike.refl U.vm) qK⟩, fun U hU hW => ⟨rfl, by rw [hU]; exact hPc, va_K.moved hW.alike hKc⟩⟩ rfl rfl hl.1 rfl (lv_room (Nat.le_of_ble_eq_true rfl)) dX5_longest_24 ⟨Nat.le_of_ble_eq_true rfl, Nat.le_of_ble_eq_true rfl⟩) (fun r_5 w_5 => ?_)
          rcases w_5 with ⟨rfl, w_5⟩ | ⟨rfl, w_5⟩
          · have w_5 : (0 ≤ p3.toInt ∧ p3.toInt ≤ 1) := w_5
            refine lv_if_ne (tgt := 32) hx hb dX5_longest_27 (by decide) (fun c_6 => ?_) (fun c_6 => ?_)
            · have n_l := ki_nat m_n rfl (om_10 a0)
              refine lv_iconst (v := (-1)) hx hb dX5_longest_32 (by decide) ?_
              refine lv_istore (lv' := [(5, .int (-1)), (0, .ref h0), (1, .int p0), (2, .int p1), (3, .int p2), (4, .int p3)]) hx hb dX5_longest_33 hl (by decide) rfl (fun ls hl => ?_)
              refine lv_iconst (v := (-1)) hx hb dX5_longest_35 (by decide) ?_
              refine lv_istore (lv' := [(6, .int (-1)), (5, .int (-1)), (0, .ref h0), (1, .int p0), (2, .int p1), (3, .int p2), (4, .int p3)]) hx hb dX5_longest_36 hl (by decide) rfl (fun ls hl => ?_)
              refine lv_iconst (v := 0) hx hb dX5_longest_38 (by decide) ?_
              refine lv_istore (lv' := [(7, .int 0), (6, .int (-1)), (5, .int (-1)), (0, .ref h0), (1, .int p0), (2, .int p1), (3, .int p2), (4, .int p3)]) hx hb dX5_longest_39 hl (by decide) rfl (fun ls hl => ?_)
              have LP1 : ∀ (n : Nat) (i : Int32) (bl : Int32) (br : Int32), (0 ≤ i.toInt) → (mj_lg (mj_hv f p0 p1.toInt p2.toInt) (mj_D m_n.toNatClampNeg i.toNatClampNeg) bl.toInt br.toInt) → (i.toInt ≤ m_n.toInt) → (-1 ≤ bl.toInt) → (bl.toInt ≤ 160) → (-1 ≤ br.toInt) → (br.toInt ≤ 160) → (m_n.toInt - i.toInt).toNat < n → ∀ (H : Heap) (locs : List Loc), va_P (dC, dI) vwCl [kx_5 h0 g_row m_n m_slots 0 g_many g_loss g_less g_voteValue g_voteNumber g_allValue g_allNumber m_allMany g_nodeL g_nodeR m_nodes g_part m_partMany g_wasMany g_wasLoss g_wasValue g_wasNumber g_path m_pathMany g_heavyValue g_heavyTimes m_heavyMany g_fewest g_which g_met m_mostMet, kx_a g_row cyI 160 f] H → va_D A [kx_5 h0 g_row m_n m_slots 0 g_many g_loss g_less g_voteValue g_voteNumber g_allValue g_allNumber m_allMany g_nodeL g_nodeR m_nodes g_part m_partMany g_wasMany g_wasLoss g_wasValue g_wasNumber g_path m_pathMany g_heavyValue g_heavyTimes m_heavyMany g_fewest g_which g_met m_mostMet, kx_a g_row cyI 160 f] → va_S A s.heap H locs → ∀ (ls : Array Slot), lv_has ls 10 [(7, .int i), (6, .int br), (5, .int bl), (0, .ref h0), (1, .int p0), (2, .int p1), (3, .int p2), (4, .int p3)] → W p l e (headSpec wsX5_longest ({ frames := 2, cells := 0, slots := 0, locals := 90 })).room s m ([.ref h0, .int p0, .int p1, .int p2, .int p3] : List Value).toArray below meth c H locs 0 0 (MQ below (va_Qi (fun (r : Int32) (_ : Unit) => ((-32768 ≤ p0.toInt ∧ p0.toInt ≤ 32767 ∧ 1 ≤ p1.toInt ∧ p1.toInt ≤ p2.toInt ∧ p2.toInt ≤ 999 ∧ 0 ≤ p3.toInt ∧ p3.toInt ≤ 1) ∧ mj_ex2 (fun bl br => mj_lg (mj_hv f p0 p1.toInt p2.toInt) (mj_D m_n.toNatClampNeg m_n.toNatClampNeg) bl br) p3.toInt 0 1 r.toInt) ∨ ((p0.toInt < -32768 ∨ 32767 < p0.toInt ∨ p1.toInt < 1 ∨ p2.toInt < p1.toInt ∨ 999 < p2.toInt ∨ p3.toInt < 0 ∨ 1 < p3.toInt) ∧ r = -1)) (fun (_ : Unit) (t : State) => va_P (dC, dI) vwCl [kx_5 h0 g_row m_n m_slots 0 g_many g_loss g_less g_voteValue g_voteNumber g_allValue g_allNumber m_allMany g_nodeL g_nodeR m_nodes g_part m_partMany g_wasMany g_wasLoss g_wasValue g_wasNumber g_path m_pathMany g_heavyValue g_heavyTimes m_heavyMany g_fewest g_which g_met m_mostMet, kx_a g_row cyI 160 f] t.heap ∧ va_K (dC, dI) vwCl [(cyI, .int)] t ∧ va_D A [kx_5 h0 g_row m_n m_slots 0 g_many g_loss g_less g_voteValue g_voteNumber g_allValue g_allNumber m_allMany g_nodeL g_nodeR m_nodes g_part m_partMany g_wasMany g_wasLoss g_wasValue g_wasNumber g_path m_pathMany g_heavyValue g_heavyTimes m_heavyMany g_fewest g_which g_met m_mostMet, kx_a g_row cyI 160 f]) A) ([.ref h0, .int p0, .int p1, .int p2, .int p3] : List Value).toArray s 0 0 A) (F0 m 41 ls []) := by
                intro n
                induction n with
                | zero => intro i bl br LP1_h0 LP1_h1 LP1_h2 LP1_h3 LP1_h4 LP1_h5 LP1_h6 hn; exact absurd hn (Nat.not_lt_zero _)
                | succ n ih1 =>
                  intro i bl br LP1_h0 LP1_h1 LP1_h2 LP1_h3 LP1_h4 LP1_h5 LP1_h6 hn1 H locs hP hD hS ls hl
                  have n_i := ki_nat i rfl (om_10 LP1_h0)
                  refine lv_iload hx hb dX5_longest_41 (lv_at hl 0 rfl) ?_
                  refine lv_aload_n hx hb dX5_longest_43 rfl (lv_at hl 3 rfl) ?_
                  refine va_get (D := (dC, dI)) (ci := 5) (v := .int m_n) (C := RX5) (T := TX5) (N := 30) hx hb hts hi_5 hown hK hP 0 rfl rfl 1 (by decide) hf_84 (fun _ h9 => h9) rfl dX5_longest_44 ?_
                  refine lv_icmp_ge (tgt := 139) hx hb dX5_longest_47 (by decide) (fun c_7 => ?_) (fun c_7 => ?_)
                  · have i_7 : m_n.toInt ≤ i.toInt := kc_le c_7
                    refine lv_iload hx hb dX5_longest_139 (lv_at hl 7 rfl) ?_
                    refine lv_if_ne (tgt := 149) hx hb dX5_longest_141 (by decide) (fun c_8 => ?_) (fun c_8 => ?_)
                    · have i_8 : ¬ p3.toInt = 0 := kc_ne c_8
                      refine lv_iload hx hb dX5_longest_149 (lv_at hl 1 rfl) ?_
                      have hP9 := hP
                      have hD9 := hD
                      have hK9 := hK
                      have q_i : i.toNatClampNeg = m_n.toNatClampNeg := by omega
                      have h_l := LP1_h1
                      have h_l : mj_lg (mj_hv f p0 p1.toInt p2.toInt) (mj_D m_n.toNatClampNeg m_n.toNatClampNeg) bl.toInt br.toInt := by rw [q_i] at h_l; exact h_l
                      exact W.iret (v := br) hx hb hr (hlocks := hlocks) (fun t ht hW => ⟨⟨br, (), rfl, (Or.inl ⟨(by (try dsimp only); omega), bl.toInt, br.toInt, h_l, (by (try dsimp only); omega)⟩), by rw [ht]; exact hP9, va_K.moved hW.alike hK9, hD9⟩, hS.F ht⟩) hS.2.2 dX5_longest_151
                    · have i_8 : p3.toInt = 0 := kc_eq c_8
                      refine lv_iload hx hb dX5_longest_144 (lv_at hl 2 rfl) ?_
                      refine lv_goto (tgt := 151) hx hb dX5_longest_146 (by decide) ?_
                      have hP9 := hP
                      have hD9 := hD
                      have hK9 := hK
                      have q_i : i.toNatClampNeg = m_n.toNatClampNeg := by omega
                      have h_l := LP1_h1
                      have h_l : mj_lg (mj_hv f p0 p1.toInt p2.toInt) (mj_D m_n.toNatClampNeg m_n.toNatClampNeg) bl.toInt br.toInt := by rw [q_i] at h_l; exact h_l
                      exact W.iret (v := bl) hx hb hr (hlocks := hlocks) (fun t ht hW => ⟨⟨bl, (), rfl, (Or.inl ⟨(by (try dsimp only); omega), bl.toInt, br.toInt, h_l, (by (try dsimp only); omega)⟩), by rw [ht]; exact hP9, va_K.moved hW.alike hK9, hD9⟩, hS.F ht⟩) hS.2.2 dX5_longest_151
                  · have i_7 : i.toInt < m_n.toInt := kc_nle c_7
                    refine lv_iconst (v := 0) hx hb dX5_longest_50 (by decide) ?_
                    refine lv_istore (lv' := [(8, .int 0), (7, .int i), (6, .int br), (5, .int bl), (0, .ref h0), (1, .int p0), (2, .int p1), (3, .int p2), (4, .int p3)]) hx hb dX5_longest_51 hl (by decide) rfl (fun ls hl => ?_)
                    refine lv_iload hx hb dX5_longest_53 (lv_at hl 1 rfl) ?_
                    refine lv_iconst (v := 1) hx hb dX5_longest_55 (by decide) ?_
                    refine lv_iadd hx hb dX5_longest_56 ?_
                    refine lv_topi (fun y_9 ey_9 => ?_)
                    have i_9 : y_9.toInt = i.toInt + 1 := ki_add ey_9 rfl rfl (om_13 LP1_h0) (om_238 a1 LP1_h2)
                    refine lv_istore (lv' := [(9, .int y_9), (8, .int 0), (7, .int i), (6, .int br), (5, .int bl), (0, .ref h0), (1, .int p0), (2, .int p1), (3, .int p2), (4, .int p3)]) hx hb dX5_longest_57 hl (by decide) rfl (fun ls hl => ?_)
                    have n_y := ki_nat y_9 rfl (om_34 LP1_h0 i_9)
                    have LP2 : ∀ (n : Nat) (j : Int32) (of : Int32) (bl2 : Int32) (br2 : Int32), (i.toInt + 1 ≤ j.toInt) → (of.toInt = (cnt f p0 i.toNatClampNeg (j.toNatClampNeg - 1 - i.toNatClampNeg) : Int)) → (mj_lg (mj_hv f p0 p1.toInt p2.toInt) (mj_D2 m_n.toNatClampNeg i.toNatClampNeg j.toNatClampNeg) bl2.toInt br2.toInt) → (j.toInt ≤ m_n.toInt + 1) → (-1 ≤ bl2.toInt) → (bl2.toInt ≤ 160) → (-1 ≤ br2.toInt) → (br2.toInt ≤ 160) → (m_n.toInt + 1 - j.toInt).toNat < n → ∀ (H : Heap) (locs : List Loc), va_P (dC, dI) vwCl [kx_5 h0 g_row m_n m_slots 0 g_many g_loss g_less g_voteValue g_voteNumber g_allValue g_allNumber m_allMany g_nodeL g_nodeR m_nodes g_part m_partMany g_wasMany g_wasLoss g_wasValue g_wasNumber g_path m_pathMany g_heavyValue g_heavyTimes m_heavyMany g_fewest g_which g_met m_mostMet, kx_a g_row cyI 160 f] H → va_D A [kx_5 h0 g_row m_n m_slots 0 g_many g_loss g_less g_voteValue g_voteNumber g_allValue g_allNumber m_allMany g_nodeL g_nodeR m_nodes g_part m_partMany g_wasMany g_wasLoss g_wasValue g_wasNumber g_path m_pathMany g_heavyValue g_heavyTimes m_heavyMany g_fewest g_which g_met m_mostMet, kx_a g_row cyI 160 f] → va_S A s.heap H locs → ∀ (ls : Array Slot), lv_has ls 10 [(9, .int j), (8, .int of), (7, .int i), (6, .int br2), (5, .int bl2), (0, .ref h0), (1, .int p0), (2, .int p1), (3, .int p2), (4, .int p3)] → W p l e (headSpec wsX5_longest ({ frames := 2, cells := 0, slots := 0, locals := 90 })).room s m ([.ref h0, .int p0, .int p1, .int p2, .int p3] : List Value).toArray below meth c H locs 0 0 (MQ below (va_Qi (fun (r : Int32) (_ : Unit) => ((-32768 ≤ p0.toInt ∧ p0.toInt ≤ 32767 ∧ 1 ≤ p1.toInt ∧ p1.toInt ≤ p2.toInt ∧ p2.toInt ≤ 999 ∧ 0 ≤ p3.toInt ∧ p3.toInt ≤ 1) ∧ mj_ex2 (fun bl br => mj_lg (mj_hv f p0 p1.toInt p2.toInt) (mj_D m_n.toNatClampNeg m_n.toNatClampNeg) bl br) p3.toInt 0 1 r.toInt) ∨ ((p0.toInt < -32768 ∨ 32767 < p0.toInt ∨ p1.toInt < 1 ∨ p2.toInt < p1.toInt ∨ 999 < p2.toInt ∨ p3.toInt < 0 ∨ 1 < p3.toInt) ∧ r = -1)) (fun (_ : Unit) (t : State) => va_P (dC, dI) vwCl [kx_5 h0 g_row m_n m_slots 0 g_many g_loss g_less g_voteValue g_voteNumber g_allValue g_allNumber m_allMany g_nodeL g_nodeR m_nodes g_part m_partMany g_wasMany g_wasLoss g_wasValue g_wasNumber g_path m_pathMany g_heavyValue g_heavyTimes m_heavyMany g_fewest g_which g_met m_mostMet, kx_a g_row cyI 160 f] t.heap ∧ va_K (dC, dI) vwCl [(cyI, .int)] t ∧ va_D A [kx_5 h0 g_row m_n m_slots 0 g_many g_loss g_less g_voteValue g_voteNumber g_allValue g_allNumber m_allMany g_nodeL g_nodeR m_nodes g_part m_partMany g_wasMany g_wasLoss g_wasValue g_wasNumber g_path m_pathMany g_heavyValue g_heavyTimes m_heavyMany g_fewest g_which g_met m_mostMet, kx_a g_row cyI 160 f]) A) ([.ref h0, .int p0, .int p1, .int p2, .int p3] : List Value).toArray s 0 0 A) (F0 m 59 ls []) := by
                      intro n
                      induction n with
                      | zero => intro j of bl2 br2 LP2_h0 LP2_h1 LP2_h2 LP2_h3 LP2_h4 LP2_h5 LP2_h6 LP2_h7 hn; exact absurd hn (Nat.not_lt_zero _)
                      | succ n ih2 =>
                        intro j of bl2 br2 LP2_h0 LP2_h1 LP2_h2 LP2_h3 LP2_h4 LP2_h5 LP2_h6 LP2_h7 hn2 H locs hP hD hS ls hl
                        have n_j := ki_nat j rfl (om_486 LP1_h0 LP2_h0)
                        have hle := cnt_le f p0 i.toNatClampNeg (j.toNatClampNeg - 1 - i.toNatClampNeg)
                        refine lv_iload hx hb dX5_longest_59 (lv_at hl 0 rfl) ?_
                        refine lv_aload_n hx hb dX5_longest_61 rfl (lv_at hl 5 rfl) ?_
                        refine va_get (D := (dC, dI)) (ci := 5) (v := .int m_n) (C := RX5) (T := TX5) (N := 30) hx hb hts hi_5 hown hK hP 0 rfl rfl 1 (by decide) hf_84 (fun _ h9 => h9) rfl dX5_longest_62 ?_
                        refine lv_icmp_gt (tgt := 133) hx hb dX5_longest_65 (by decide) (fun c_10 => ?_) (fun c_10 => ?_)
                        · have i_10 : m_n.toInt < j.toInt := kc_lt c_10
                          obtain ⟨x_11, ex_11⟩ : ∃ y : Int32, y = i + 1 := ⟨_, rfl⟩
                          have i_11 : x_11.toInt = i.toInt + 1 := ki_add ex_11 rfl rfl (om_13 LP1_h0) (om_238 a1 LP1_h2)
                          refine lv_iinc (v := x_11) (lv' := [(7, .int x_11), (9, .int j), (8, .int of), (6, .int br2), (5, .int bl2), (0, .ref h0), (1, .int p0), (2, .int p1), (3, .int p2), (4, .int p3)]) hx hb dX5_longest_133 hl (k := 2) rfl (by rw [ex_11]; rfl) (by decide) rfl (fun ls hl => ?_)
                          refine lv_goto (tgt := 41) hx hb dX5_longest_136 (by decide) ?_
                          have n_12 := ki_nat x_11 rfl (om_34 LP1_h0 i_11)
                          exact ih1 x_11 bl2 br2 (om_34 LP1_h0 i_11) (mj_lg_iff LP2_h2 (fun l r => by unfold mj_D2 mj_D; omega)) (om_54 i_7 i_11) (om_517 LP2_h4) (om_136 LP2_h5) (om_517 LP2_h6) (om_136 LP2_h7) (om_mu hn1 (om_5 i_11) (om_6 i_7)) _ _ hP hD hS ls (lv_sub hl [0, 3, 4, 5, 6, 7, 8, 9] rfl)
                        · have i_10 : j.toInt ≤ m_n.toInt := kc_nlt c_10
                          refine lv_aload_n hx hb dX5_longest_68 rfl (lv_at hl 5 rfl) ?_
                          refine va_get (D := (dC, dI)) (ci := 5) (v := .ref g_row) (C := RX5) (T := TX5) (N := 30) hx hb hts hi_5 hown hK hP 0 rfl rfl 0 (by decide) hf_7 (fun _ h9 => h9) rfl dX5_longest_69 ?_
                          refine lv_iload hx hb dX5_longest_72 (lv_at hl 0 rfl) ?_
                          refine lv_iconst (v := 1) hx hb dX5_longest_74 (by decide) ?_
                          refine lv_isub hx hb dX5_longest_75 ?_
                          refine lv_topi (fun y_13 ey_13 => ?_)
                          have i_13 : y_13.toInt = j.toInt - 1 := ki_sub ey_13 rfl rfl (om_523 LP1_h0 LP2_h0) (om_183 a1 i_10)
                          refine va_iald hx hb hK hP 1 0 rfl rfl (ki_in (om_524 LP1_h0 LP2_h0 i_13) (om_232 a1 i_10 i_13)) dX5_longest_76 ?_
                          refine lv_topi (fun y_14 ey_14 => ?_)
                          have j_14 : y_14.toInt = (f y_13.toNatClampNeg).toInt := congrArg Int32.toInt ey_14
                          refine lv_iload_n hx hb dX5_longest_77 rfl (lv_at hl 6 rfl) ?_
                          refine lv_icmp_ne (tgt := 84) hx hb dX5_longest_78 (by decide) (fun c_15 => ?_) (fun c_15 => ?_)
                          · have i_15 : ¬ y_14.toInt = p0.toInt := kc_ne c_15
                            refine lv_iload hx hb dX5_longest_84 (lv_at hl 1 rfl) ?_
                            refine lv_iload_n hx hb dX5_longest_86 rfl (lv_at hl 8 rfl) ?_
                            refine lv_imul hx hb dX5_longest_87 ?_
                            refine lv_topi (fun y_16 ey_16 => ?_)
                            refine lv_iload_n hx hb dX5_longest_88 rfl (lv_at hl 7 rfl) ?_
                            refine lv_iload hx hb dX5_longest_89 (lv_at hl 0 rfl) ?_
                            refine lv_iload hx hb dX5_longest_91 (lv_at hl 2 rfl) ?_
                            refine lv_isub hx hb dX5_longest_93 ?_
                            refine lv_topi (fun y_17 ey_17 => ?_)
                            have i_17 : y_17.toInt = j.toInt - i.toInt := ki_sub ey_17 rfl rfl (om_525 LP2_h0) (om_169 a1 LP1_h0 i_10)
                            refine lv_imul hx hb dX5_longest_94 ?_
                            refine lv_topi (fun y_18 ey_18 => ?_)
                            have b1 := ki_mulb (a := of.toInt) (b := p2.toInt) (A := 161) (B := 999) (by omega) (by omega) (by omega) (by omega)
                            have b2 := ki_mulb (a := p1.toInt) (b := y_17.toInt) (A := 999) (B := 160) (by omega) (by omega) (by omega) (by omega)
                            have m1 : y_16.toInt = of.toInt * p2.toInt := ki_mul ey_16 rfl rfl (by omega) (by omega)
                            have m2 : y_18.toInt = p1.toInt * y_17.toInt := ki_mul ey_18 rfl rfl (by omega) (by omega)
                            refine lv_icmp_le (tgt := 127) hx hb dX5_longest_95 (by decide) (fun c_19 => ?_) (fun c_19 => ?_)
                            · have i_19 : y_16.toInt ≤ y_18.toInt := kc_le c_19
                              obtain ⟨x_20, ex_20⟩ : ∃ y : Int32, y = j + 1 := ⟨_, rfl⟩
                              have i_20 : x_20.toInt = j.toInt + 1 := ki_add ex_20 rfl rfl (om_488 LP1_h0 LP2_h0) (om_238 a1 i_10)
                              refine lv_iinc (v := x_20) (lv' := [(9, .int x_20), (8, .int of), (7, .int i), (6, .int br2), (5, .int bl2), (0, .ref h0), (1, .int p0), (2, .int p1), (3, .int p2), (4, .int p3)]) hx hb dX5_longest_127 hl (k := 0) rfl (by rw [ex_20]; rfl) (by decide) rfl (fun ls hl => ?_)
                              refine lv_goto (tgt := 59) hx hb dX5_longest_130 (by decide) ?_
                              have n_21 := ki_nat x_20 rfl (om_490 LP1_h0 LP2_h0 i_20)
                              have n_22 := ki_nat y_13 rfl (om_524 LP1_h0 LP2_h0 i_13)
                              have st : cnt f p0 i.toNatClampNeg (x_20.toNatClampNeg - 1 - i.toNatClampNeg) = cnt f p0 i.toNatClampNeg (j.toNatClampNeg - 1 - i.toNatClampNeg) := cnt_miss1 (by rw [show i.toNatClampNeg + (j.toNatClampNeg - 1 - i.toNatClampNeg) = y_13.toNatClampNeg by omega]; exact fun h => c_15 (ey_14.trans h)) (by omega)
                              have q_o : (cnt f p0 i.toNatClampNeg (j.toNatClampNeg - i.toNatClampNeg) : Int) = of.toInt := by rw [show j.toNatClampNeg - i.toNatClampNeg = x_20.toNatClampNeg - 1 - i.toNatClampNeg by omega, st]; omega
                              have q_l : ((j.toNatClampNeg : Nat) : Int) - ((i.toNatClampNeg : Nat) : Int) = y_17.toInt := by omega
                              have hviff : mj_hv f p0 p1.toInt p2.toInt i.toNatClampNeg j.toNatClampNeg ↔ p1.toInt * y_17.toInt < of.toInt * p2.toInt := by unfold mj_hv; rw [q_o, q_l]
                              exact ih2 x_20 of bl2 br2 (om_489 LP2_h0 i_20) (by rw [st]; omega) (mj_lg_skip (i := i.toNatClampNeg) (r := j.toNatClampNeg) LP2_h2 (fun l r => by unfold mj_D2 mj_D; omega) (fun l r h => by unfold mj_D2 mj_D at h; omega) (Or.inl (fun h => by have := hviff.mp h; omega))) (om_508 i_10 i_20) (om_517 LP2_h4) (om_136 LP2_h5) (om_517 LP2_h6) (om_136 LP2_h7) (om_mu hn2 (om_239 i_20) (om_240 i_10)) _ _ hP hD hS ls (lv_sub hl [0, 1, 2, 3, 4, 5, 6, 7, 8, 9] rfl)
                            · have i_19 : y_18.toInt < y_16.toInt := kc_nle c_19
                              refine lv_iload hx hb dX5_longest_98 (lv_at hl 4 rfl) ?_
                              refine lv_if_lt (tgt := 119) hx hb dX5_longest_100 (by decide) (fun c_23 => ?_) (fun c_23 => ?_)
                              · have i_23 : bl2.toInt < 0 := kc_lt c_23
                                refine lv_iload hx hb dX5_longest_119 (lv_at hl 2 rfl) ?_
                                refine lv_istore (lv' := [(5, .int i), (9, .int j), (8, .int of), (7, .int i), (6, .int br2), (0, .ref h0), (1, .int p0), (2, .int p1), (3, .int p2), (4, .int p3)]) hx hb dX5_longest_121 hl (by decide) rfl (fun ls hl => ?_)
                                refine lv_iload hx hb dX5_longest_123 (lv_at hl 1 rfl) ?_
                                refine lv_istore (lv' := [(6, .int j), (5, .int i), (9, .int j), (8, .int of), (7, .int i), (0, .ref h0), (1, .int p0), (2, .int p1), (3, .int p2), (4, .int p3)]) hx hb dX5_longest_125 hl (by decide) rfl (fun ls hl => ?_)
                                obtain ⟨x_24, ex_24⟩ : ∃ y : Int32, y = j + 1 := ⟨_, rfl⟩
                                have i_24 : x_24.toInt = j.toInt + 1 := ki_add ex_24 rfl rfl (om_488 LP1_h0 LP2_h0) (om_238 a1 i_10)
                                refine lv_iinc (v := x_24) (lv' := [(9, .int x_24), (6, .int j), (5, .int i), (8, .int of), (7, .int i), (0, .ref h0), (1, .int p0), (2, .int p1), (3, .int p2), (4, .int p3)]) hx hb dX5_longest_127 hl (k := 2) rfl (by rw [ex_24]; rfl) (by decide) rfl (fun ls hl => ?_)
                                refine lv_goto (tgt := 59) hx hb dX5_longest_130 (by decide) ?_
                                have n_25 := ki_nat x_24 rfl (om_490 LP1_h0 LP2_h0 i_24)
                                have n_26 := ki_nat y_13 rfl (om_524 LP1_h0 LP2_h0 i_13)
                                have st : cnt f p0 i.toNatClampNeg (x_24.toNatClampNeg - 1 - i.toNatClampNeg) = cnt f p0 i.toNatClampNeg (j.toNatClampNeg - 1 - i.toNatClampNeg) := cnt_miss1 (by rw [show i.toNatClampNeg + (j.toNatClampNeg - 1 - i.toNatClampNeg) = y_13.toNatClampNeg by omega]; exact fun h => c_15 (ey_14.trans h)) (by omega)
                                have q_o : (cnt f p0 i.toNatClampNeg (j.toNatClampNeg - i.toNatClampNeg) : Int) = of.toInt := by rw [show j.toNatClampNeg - i.toNatClampNeg = x_24.toNatClampNeg - 1 - i.toNatClampNeg by omega, st]; omega
                                have q_l : ((j.toNatClampNeg : Nat) : Int) - ((i.toNatClampNeg : Nat) : Int) = y_17.toInt := by omega
                                have hviff : mj_hv f p0 p1.toInt p2.toInt i.toNatClampNeg j.toNatClampNeg ↔ p1.toInt * y_17.toInt < of.toInt * p2.toInt := by unfold mj_hv; rw [q_o, q_l]
                                exact ih2 x_24 of i j (om_489 LP2_h0 i_24) (by rw [st]; omega) (by rw [← n_i, ← n_j]; exact mj_lg_put LP2_h2 (fun l r => by unfold mj_D2 mj_D; omega) (by omega) (hviff.mpr (by omega)) (by omega)) (om_508 i_10 i_24) (om_520 LP1_h0) (om_167 a1 LP1_h2) (om_526 LP1_h0 LP2_h0) (om_167 a1 i_10) (om_mu hn2 (om_239 i_24) (om_240 i_10)) _ _ hP hD hS ls (lv_sub hl [0, 3, 4, 1, 2, 5, 6, 7, 8, 9] rfl)
                              · have i_23 : 0 ≤ bl2.toInt := kc_nlt c_23
                                refine lv_iload hx hb dX5_longest_103 (lv_at hl 0 rfl) ?_
                                refine lv_iload hx hb dX5_longest_105 (lv_at hl 2 rfl) ?_
                                refine lv_isub hx hb dX5_longest_107 ?_
                                refine lv_topi (fun y_27 ey_27 => ?_)
                                have i_27 : y_27.toInt = j.toInt - i.toInt := ki_sub ey_27 rfl rfl (om_525 LP2_h0) (om_169 a1 LP1_h0 i_10)
                                refine lv_iload hx hb dX5_longest_108 (lv_at hl 3 rfl) ?_
                                refine lv_iload hx hb dX5_longest_110 (lv_at hl 4 rfl) ?_
                                refine lv_isub hx hb dX5_longest_112 ?_
                                refine lv_topi (fun y_28 ey_28 => ?_)
                                have i_28 : y_28.toInt = br2.toInt - bl2.toInt := ki_sub ey_28 rfl rfl (om_518 LP2_h5 LP2_h6) (om_527 LP2_h7 i_23)
                                refine lv_icmp_gt (tgt := 119) hx hb dX5_longest_113 (by decide) (fun c_29 => ?_) (fun c_29 => ?_)
                                · have i_29 : y_28.toInt < y_27.toInt := kc_lt c_29
                                  refine lv_iload hx hb dX5_longest_119 (lv_at hl 2 rfl) ?_
                                  refine lv_istore (lv' := [(5, .int i), (9, .int j), (8, .int of), (7, .int i), (6, .int br2), (0, .ref h0), (1, .int p0), (2, .int p1), (3, .int p2), (4, .int p3)]) hx hb dX5_longest_121 hl (by decide) rfl (fun ls hl => ?_)
                                  refine lv_iload hx hb dX5_longest_123 (lv_at hl 1 rfl) ?_
                                  refine lv_istore (lv' := [(6, .int j), (5, .int i), (9, .int j), (8, .int of), (7, .int i), (0, .ref h0), (1, .int p0), (2, .int p1), (3, .int p2), (4, .int p3)]) hx hb dX5_longest_125 hl (by decide) rfl (fun ls hl => ?_)
                                  obtain ⟨x_30, ex_30⟩ : ∃ y : Int32, y = j + 1 := ⟨_, rfl⟩
                                  have i_30 : x_30.toInt = j.toInt + 1 := ki_add ex_30 rfl rfl (om_488 LP1_h0 LP2_h0) (om_238 a1 i_10)
                                  refine lv_iinc (v := x_30) (lv' := [(9, .int x_30), (6, .int j), (5, .int i), (8, .int of), (7, .int i), (0, .ref h0), (1, .int p0), (2, .int p1), (3, .int p2), (4, .int p3)]) hx hb dX5_longest_127 hl (k := 2) rfl (by rw [ex_30]; rfl) (by decide) rfl (fun ls hl => ?_)
                                  refine lv_goto (tgt := 59) hx hb dX5_longest_130 (by decide) ?_
                                  have n_31 := ki_nat x_30 rfl (om_490 LP1_h0 LP2_h0 i_30)
                                  have n_32 := ki_nat y_13 rfl (om_524 LP1_h0 LP2_h0 i_13)
                                  have st : cnt f p0 i.toNatClampNeg (x_30.toNatClampNeg - 1 - i.toNatClampNeg) = cnt f p0 i.toNatClampNeg (j.toNatClampNeg - 1 - i.toNatClampNeg) := cnt_miss1 (by rw [show i.toNatClampNeg + (j.toNatClampNeg - 1 - i.toNatClampNeg) = y_13.toNatClampNeg by omega]; exact fun h => c_15 (ey_14.trans h)) (by omega)
                                  have q_o : (cnt f p0 i.toNatClampNeg (j.toNatClampNeg - i.toNatClampNeg) : Int) = of.toInt := by rw [show j.toNatClampNeg - i.toNatClampNeg = x_30.toNatClampNeg - 1 - i.toNatClampNeg by omega, st]; omega
                                  have q_l : ((j.toNatClampNeg : Nat) : Int) - ((i.toNatClampNeg : Nat) : Int) = y_17.toInt := by omega
                                  have hviff : mj_hv f p0 p1.toInt p2.toInt i.toNatClampNeg j.toNatClampNeg ↔ p1.toInt * y_17.toInt < of.toInt * p2.toInt := by unfold mj_hv; rw [q_o, q_l]
                                  exact ih2 x_30 of i j (om_489 LP2_h0 i_30) (by rw [st]; omega) (by rw [← n_i, ← n_j]; exact mj_lg_put LP2_h2 (fun l r => by unfold mj_D2 mj_D; omega) (by omega) (hviff.mpr (by omega)) (by omega)) (om_508 i_10 i_30) (om_520 LP1_h0) (om_167 a1 LP1_h2) (om_526 LP1_h0 LP2_h0) (om_167 a1 i_10) (om_mu hn2 (om_239 i_30) (om_240 i_10)) _ _ hP hD hS ls (lv_sub hl [0, 3, 4, 1, 2, 5, 6, 7, 8, 9] rfl)
                                · have i_29 : y_27.toInt ≤ y_28.toInt := kc_nlt c_29
                                  refine lv_goto (tgt := 127) hx hb dX5_longest_116 (by decide) ?_
                                  obtain ⟨x_33, ex_33⟩ : ∃ y : Int32, y = j + 1 := ⟨_, rfl⟩
                                  have i_33 : x_33.toInt = j.toInt + 1 := ki_add ex_33 rfl rfl (om_488 LP1_h0 LP2_h0) (om_528 a1 LP2_h3)
                                  refine lv_iinc (v := x_33) (lv' := [(9, .int x_33), (8, .int of), (7, .int i), (6, .int br2), (5, .int bl2), (0, .ref h0), (1, .int p0), (2, .int p1), (3, .int p2), (4, .int p3)]) hx hb dX5_longest_127 hl (k := 0) rfl (by rw [ex_33]; rfl) (by decide) rfl (fun ls hl => ?_)
                                  refine lv_goto (tgt := 59) hx hb dX5_longest_130 (by decide) ?_
                                  have n_34 := ki_nat x_33 rfl (om_490 LP1_h0 LP2_h0 i_33)
                                  have n_35 := ki_nat y_13 rfl (om_524 LP1_h0 LP2_h0 i_13)
                                  have st : cnt f p0 i.toNatClampNeg (x_33.toNatClampNeg - 1 - i.toNatClampNeg) = cnt f p0 i.toNatClampNeg (j.toNatClampNeg - 1 - i.toNatClampNeg) := cnt_miss1 (by rw [show i.toNatClampNeg + (j.toNatClampNeg - 1 - i.toNatClampNeg) = y_13.toNatClampNeg by omega]; exact fun h => c_15 (ey_14.trans h)) (by omega)
                                  have q_o : (cnt f p0 i.toNatClampNeg (j.toNatClampNeg - i.toNatClampNeg) : Int) = of.toInt := by rw [show j.toNatClampNeg - i.toNatClampNeg = x_33.toNatClampNeg - 1 - i.toNatClampNeg by omega, st]; omega
                                  have q_l : ((j.toNatClampNeg : Nat) : Int) - ((i.toNatClampNeg : Nat) : Int) = y_17.toInt := by omega
                                  have hviff : mj_hv f p0 p1.toInt p2.toInt i.toNatClampNeg j.toNatClampNeg ↔ p1.toInt * y_17.toInt < of.toInt * p2.toInt := by unfold mj_hv; rw [q_o, q_l]
                                  exact ih2 x_33 of bl2 br2 (om_489 LP2_h0 i_33) (by rw [st]; omega) (mj_lg_skip (i := i.toNatClampNeg) (r := j.toNatClampNeg) LP2_h2 (fun l r => by unfold mj_D2 mj_D; omega) (fun l r h => by unfold mj_D2 mj_D at h; omega) (Or.inr ⟨(by omega), (by omega)⟩)) (om_508 i_10 i_33) (om_520 i_23) (om_136 LP2_h5) (om_517 LP2_h6) (om_136 LP2_h7) (om_mu hn2 (om_239 i_33) (om_240 i_10)) _ _ hP hD hS ls (lv_sub hl [0, 1, 2, 3, 4, 5, 6, 7, 8, 9] rfl)
                          · have i_15 : y_14.toInt = p0.toInt := kc_eq c_15
                            obtain ⟨x_36, ex_36⟩ : ∃ y : Int32, y = of + 1 := ⟨_, rfl⟩
                            have i_36 : x_36.toInt = of.toInt + 1 := ki_add ex_36 rfl rfl (om_381 LP2_h1 (Int.natCast_nonneg _)) (by omega)
                            refine lv_iinc (v := x_36) (lv' := [(8, .int x_36), (9, .int j), (7, .int i), (6, .int br2), (5, .int bl2), (0, .ref h0), (1, .int p0), (2, .int p1), (3, .int p2), (4, .int p3)]) hx hb dX5_longest_81 hl (k := 1) rfl (by rw [ex_36]; rfl) (by decide) rfl (fun ls hl => ?_)
                            refine lv_iload hx hb dX5_longest_84 (lv_at hl 0 rfl) ?_
                            refine lv_iload_n hx hb dX5_longest_86 rfl (lv_at hl 8 rfl) ?_
                            refine lv_imul hx hb dX5_longest_87 ?_
                            refine lv_topi (fun y_37 ey_37 => ?_)
                            refine lv_iload_n hx hb dX5_longest_88 rfl (lv_at hl 7 rfl) ?_
                            refine lv_iload hx hb dX5_longest_89 (lv_at hl 1 rfl) ?_
                            refine lv_iload hx hb dX5_longest_91 (lv_at hl 2 rfl) ?_
                            refine lv_isub hx hb dX5_longest_93 ?_
                            refine lv_topi (fun y_38 ey_38 => ?_)
                            have i_38 : y_38.toInt = j.toInt - i.toInt := ki_sub ey_38 rfl rfl (om_525 LP2_h0) (om_169 a1 LP1_h0 i_10)
                            refine lv_imul hx hb dX5_longest_94 ?_
                            refine lv_topi (fun y_39 ey_39 => ?_)
                            have b1 := ki_mulb (a := x_36.toInt) (b := p2.toInt) (A := 161) (B := 999) (by omega) (by omega) (by omega) (by omega)
                            have b2 := ki_mulb (a := p1.toInt) (b := y_38.toInt) (A := 999) (B := 160) (by omega) (by omega) (by omega) (by omega)
                            have m1 : y_37.toInt = x_36.toInt * p2.toInt := ki_mul ey_37 rfl rfl (by omega) (by omega)
                            have m2 : y_39.toInt = p1.toInt * y_38.toInt := ki_mul ey_39 rfl rfl (by omega) (by omega)
                            refine lv_icmp_le (tgt := 127) hx hb dX5_longest_95 (by decide) (fun c_40 => ?_) (fun c_40 => ?_)
                            · have i_40 : y_37.toInt ≤ y_39.toInt := kc_le c_40
                              obtain ⟨x_41, ex_41⟩ : ∃ y : Int32, y = j + 1 := ⟨_, rfl⟩
                              have i_41 : x_41.toInt = j.toInt + 1 := ki_add ex_41 rfl rfl (om_488 LP1_h0 LP2_h0) (om_238 a1 i_10)
                              refine lv_iinc (v := x_41) (lv' := [(9, .int x_41), (8, .int x_36), (7, .int i), (6, .int br2), (5, .int bl2), (0, .ref h0), (1, .int p0), (2, .int p1), (3, .int p2), (4, .int p3)]) hx hb dX5_longest_127 hl (k := 1) rfl (by rw [ex_41]; rfl) (by decide) rfl (fun ls hl => ?_)
                              refine lv_goto (tgt := 59) hx hb dX5_longest_130 (by decide) ?_
                              have n_42 := ki_nat x_41 rfl (om_490 LP1_h0 LP2_h0 i_41)
                              have n_43 := ki_nat y_13 rfl (om_524 LP1_h0 LP2_h0 i_13)
                              have st : cnt f p0 i.toNatClampNeg (x_41.toNatClampNeg - 1 - i.toNatClampNeg) = cnt f p0 i.toNatClampNeg (j.toNatClampNeg - 1 - i.toNatClampNeg) + 1 := cnt_hit1 (by rw [show i.toNatClampNeg + (j.toNatClampNeg - 1 - i.toNatClampNeg) = y_13.toNatClampNeg by omega]; exact ey_14.symm.trans c_15) (by omega)
                              have q_o : (cnt f p0 i.toNatClampNeg (j.toNatClampNeg - i.toNatClampNeg) : Int) = x_36.toInt := by rw [show j.toNatClampNeg - i.toNatClampNeg = x_41.toNatClampNeg - 1 - i.toNatClampNeg by omega, st]; omega
                              have q_l : ((j.toNatClampNeg : Nat) : Int) - ((i.toNatClampNeg : Nat) : Int) = y_38.toInt := by omega
                              have hviff : mj_hv f p0 p1.toInt p2.toInt i.toNatClampNeg j.toNatClampNeg ↔ p1.toInt * y_38.toInt < x_36.toInt * p2.toInt := by unfold mj_hv; rw [q_o, q_l]
                              exact ih2 x_41 x_36 bl2 br2 (om_489 LP2_h0 i_41) (by rw [st]; omega) (mj_lg_skip (i := i.toNatClampNeg) (r := j.toNatClampNeg) LP2_h2 (fun l r => by unfold mj_D2 mj_D; omega) (fun l r h => by unfold mj_D2 mj_D at h; omega) (Or.inl (fun h => by have := hviff.mp h; omega))) (om_508 i_10 i_41) (om_517 LP2_h4) (om_136 LP2_h5) (om_517 LP2_h6) (om_136 LP2_h7) (om_mu hn2 (om_239 i_41) (om_240 i_10)) _ _ hP hD hS ls (lv_sub hl [0, 1, 2, 3, 4, 5, 6, 7, 8, 9] rfl)
                            · have i_40 : y_39.toInt < y_37.toInt := kc_nle c_40
                              refine lv_iload hx hb dX5_longest_98 (lv_at hl 4 rfl) ?_
                              refine lv_if_lt (tgt := 119) hx hb dX5_longest_100 (by decide) (fun c_44 => ?_) (fun c_44 => ?_)
                              · have i_44 : bl2.toInt < 0 := kc_lt c_44
                                refine lv_iload hx hb dX5_longest_119 (lv_at hl 2 rfl) ?_
                                refine lv_istore (lv' := [(5, .int i), (8, .int x_36), (9, .int j), (7, .int i), (6, .int br2), (0, .ref h0), (1, .int p0), (2, .int p1), (3, .int p2), (4, .int p3)]) hx hb dX5_longest_121 hl (by decide) rfl (fun ls hl => ?_)
                                refine lv_iload hx hb dX5_longest_123 (lv_at hl 2 rfl) ?_
                                refine lv_istore (lv' := [(6, .int j), (5, .int i), (8, .int x_36), (9, .int j), (7, .int i), (0, .ref h0), (1, .int p0), (2, .int p1), (3, .int p2), (4, .int p3)]) hx hb dX5_longest_125 hl (by decide) rfl (fun ls hl => ?_)
                                obtain ⟨x_45, ex_45⟩ : ∃ y : Int32, y = j + 1 := ⟨_, rfl⟩
                                have i_45 : x_45.toInt = j.toInt + 1 := ki_add ex_45 rfl rfl (om_488 LP1_h0 LP2_h0) (om_238 a1 i_10)
                                refine lv_iinc (v := x_45) (lv' := [(9, .int x_45), (6, .int j), (5, .int i), (8, .int x_36), (7, .int i), (0, .ref h0), (1, .int p0), (2, .int p1), (3, .int p2), (4, .int p3)]) hx hb dX5_longest_127 hl (k := 3) rfl (by rw [ex_45]; rfl) (by decide) rfl (fun ls hl => ?_)
                                refine lv_goto (tgt := 59) hx hb dX5_longest_130 (by decide) ?_
                                have n_46 := ki_nat x_45 rfl (om_490 LP1_h0 LP2_h0 i_45)
                                have n_47 := ki_nat y_13 rfl (om_524 LP1_h0 LP2_h0 i_13)
                                have st : cnt f p0 i.toNatClampNeg (x_45.toNatClampNeg - 1 - i.toNatClampNeg) = cnt f p0 i.toNatClampNeg (j.toNatClampNeg - 1 - i.toNatClampNeg) + 1 := cnt_hit1 (by rw [show i.toNatClampNeg + (j.toNatClampNeg - 1 - i.toNatClampNeg) = y_13.toNatClampNeg by omega]; exact ey_14.symm.trans c_15) (by omega)
                                have q_o : (cnt f p0 i.toNatClampNeg (j.toNatClampNeg - i.toNatClampNeg) : Int) = x_36.toInt := by rw [show j.toNatClampNeg - i.toNatClampNeg = x_45.toNatClampNeg - 1 - i.toNatClampNeg by omega, st]; omega
                                have q_l : ((j.toNatClampNeg : Nat) : Int) - ((i.toNatClampNeg : Nat) : Int) = y_38.toInt := by omega
                                have hviff : mj_hv f p0 p1.toInt p2.toInt i.toNatClampNeg j.toNatClampNeg ↔ p1.toInt * y_38.toInt < x_36.toInt * p2.toInt := by unfold mj_hv; rw [q_o, q_l]
                                exact ih2 x_45 x_36 i j (om_489 LP2_h0 i_45) (by rw [st]; omega) (by rw [← n_i, ← n_j]; exact mj_lg_put LP2_h2 (fun l r => by unfold mj_D2 mj_D; omega) (by omega) (hviff.mpr (by omega)) (by omega)) (om_508 i_10 i_45) (om_520 LP1_h0) (om_167 a1 LP1_h2) (om_526 LP1_h0 LP2_h0) (om_167 a1 i_10) (om_mu hn2 (om_239 i_45) (om_240 i_10)) _ _ hP hD hS ls (lv_sub hl [0, 3, 4, 1, 2, 5, 6, 7, 8, 9] rfl)
                              · have i_44 : 0 ≤ bl2.toInt := kc_nlt c_44
                                refine lv_iload hx hb dX5_longest_103 (lv_at hl 1 rfl) ?_
                                refine lv_iload hx hb dX5_longest_105 (lv_at hl 2 rfl) ?_
                                refine lv_isub hx hb dX5_longest_107 ?_
                                refine lv_topi (fun y_48 ey_48 => ?_)
                                have i_48 : y_48.toInt = j.toInt - i.toInt := ki_sub ey_48 rfl rfl (om_525 LP2_h0) (om_169 a1 LP1_h0 i_10)
                                refine lv_iload hx hb dX5_longest_108 (lv_at hl 3 rfl) ?_
                                refine lv_iload hx hb dX5_longest_110 (lv_at hl 4 rfl) ?_
                                refine lv_isub hx hb dX5_longest_112 ?_
                                refine lv_topi (fun y_49 ey_49 => ?_)
                                have i_49 : y_49.toInt = br2.toInt - bl2.toInt := ki_sub ey_49 rfl rfl (om_518 LP2_h5 LP2_h6) (om_527 LP2_h7 i_44)
                                refine lv_icmp_gt (tgt := 119) hx hb dX5_longest_113 (by decide) (fun c_50 => ?_) (fun c_50 => ?_)
                                · have i_50 : y_49.toInt < y_48.toInt := kc_lt c_50
                                  refine lv_iload hx hb dX5_longest_119 (lv_at hl 2 rfl) ?_
                                  refine lv_istore (lv' := [(5, .int i), (8, .int x_36), (9, .int j), (7, .int i), (6, .int br2), (0, .ref h0), (1, .int p0), (2, .int p1), (3, .int p2), (4, .int p3)]) hx hb dX5_longest_121 hl (by decide) rfl (fun ls hl => ?_)
                                  refine lv_iload hx hb dX5_longest_123 (lv_at hl 2 rfl) ?_
                                  refine lv_istore (lv' := [(6, .int j), (5, .int i), (8, .int x_36), (9, .int j), (7, .int i), (0, .ref h0), (1, .int p0), (2, .int p1), (3, .int p2), (4, .int p3)]) hx hb dX5_longest_125 hl (by decide) rfl (fun ls hl => ?_)
                                  obtain ⟨x_51, ex_51⟩ : ∃ y : Int32, y = j + 1 := ⟨_, rfl⟩
                                  have i_51 : x_51.toInt = j.toInt + 1 := ki_add ex_51 rfl rfl (om_488 LP1_h0 LP2_h0) (om_238 a1 i_10)
                                  refine lv_iinc (v := x_51) (lv' := [(9, .int x_51), (6, .int j), (5, .int i), (8, .int x_36), (7, .int i), (0, .ref h0), (1, .int p0), (2, .int p1), (3, .int p2), (4, .int p3)]) hx hb dX5_longest_127 hl (k := 3) rfl (by rw [ex_51]; rfl) (by decide) rfl (fun ls hl => ?_)
                                  refine lv_goto (tgt := 59) hx hb dX5_longest_130 (by decide) ?_
                                  have n_52 := ki_nat x_51 rfl (om_490 LP1_h0 LP2_h0 i_51)
                                  have n_53 := ki_nat y_13 rfl (om_524 LP1_h0 LP2_h0 i_13)
                                  have st : cnt f p0 i.toNatClampNeg (x_51.toNatClampNeg - 1 - i.toNatClampNeg) = cnt f p0 i.toNatClampNeg (j.toNatClampNeg - 1 - i.toNatClampNeg) + 1 := cnt_hit1 (by rw [show i.toNatClampNeg + (j.toNatClampNeg - 1 - i.toNatClampNeg) = y_13.toNatClampNeg by omega]; exact ey_14.symm.trans c_15) (by omega)
                                  have q_o : (cnt f p0 i.toNatClampNeg (j.toNatClampNeg - i.toNatClampNeg) : Int) = x_36.toInt := by rw [show j.toNatClampNeg - i.toNatClampNeg = x_51.toNatClampNeg - 1 - i.toNatClampNeg by omega, st]; omega
                                  have q_l : ((j.toNatClampNeg : Nat) : Int) - ((i.toNatClampNeg : Nat) : Int) = y_38.toInt := by omega
                                  have hviff : mj_hv f p0 p1.toInt p2.toInt i.toNatClampNeg j.toNatClampNeg ↔ p1.toInt * y_38.toInt < x_36.toInt * p2.toInt := by unfold mj_hv; rw [q_o, q_l]
                                  exact ih2 x_51 x_36 i j (om_489 LP2_h0 i_51) (by rw [st]; omega) (by rw [← n_i, ← n_j]; exact mj_lg_put LP2_h2 (fun l r => by unfold mj_D2 mj_D; omega) (by omega) (hviff.mpr (by omega)) (by omega)) (om_508 i_10 i_51) (om_520 LP1_h0) (om_167 a1 LP1_h2) (om_526 LP1_h0 LP2_h0) (om_167 a1 i_10) (om_mu hn2 (om_239 i_51) (om_240 i_10)) _ _ hP hD hS ls (lv_sub hl [0, 3, 4, 1, 2, 5, 6, 7, 8, 9] rfl)
                                · have i_50 : y_48.toInt ≤ y_49.toInt := kc_nlt c_50
                                  refine lv_goto (tgt := 127) hx hb dX5_longest_116 (by decide) ?_
                                  obtain ⟨x_54, ex_54⟩ : ∃ y : Int32, y = j + 1 := ⟨_, rfl⟩
                                  have i_54 : x_54.toInt = j.toInt + 1 := ki_add ex_54 rfl rfl (om_488 LP1_h0 LP2_h0) (om_528 a1 LP2_h3)
                                  refine lv_iinc (v := x_54) (lv' := [(9, .int x_54), (8, .int x_36), (7, .int i), (6, .int br2), (5, .int bl2), (0, .ref h0), (1, .int p0), (2, .int p1), (3, .int p2), (4, .int p3)]) hx hb dX5_longest_127 hl (k := 1) rfl (by rw [ex_54]; rfl) (by decide) rfl (fun ls hl => ?_)
                                  refine lv_goto (tgt := 59) hx hb dX5_longest_130 (by decide) ?_
                                  have n_55 := ki_nat x_54 rfl (om_490 LP1_h0 LP2_h0 i_54)
                                  have n_56 := ki_nat y_13 rfl (om_524 LP1_h0 LP2_h0 i_13)
                                  have st : cnt f p0 i.toNatClampNeg (x_54.toNatClampNeg - 1 - i.toNatClampNeg) = cnt f p0 i.toNatClampNeg (j.toNatClampNeg - 1 - i.toNatClampNeg) + 1 := cnt_hit1 (by rw [show i.toNatClampNeg + (j.toNatClampNeg - 1 - i.toNatClampNeg) = y_13.toNatClampNeg by omega]; exact ey_14.symm.trans c_15) (by omega)
                                  have q_o : (cnt f p0 i.toNatClampNeg (j.toNatClampNeg - i.toNatClampNeg) : Int) = x_36.toInt := by rw [show j.toNatClampNeg - i.toNatClampNeg = x_54.toNatClampNeg - 1 - i.toNatClampNeg by omega, st]; omega
                                  have q_l : ((j.toNatClampNeg : Nat) : Int) - ((i.toNatClampNeg : Nat) : Int) = y_38.toInt := by omega
                                  have hviff : mj_hv f p0 p1.toInt p2.toInt i.toNatClampNeg j.toNatClampNeg ↔ p1.toInt * y_38.toInt < x_36.toInt * p2.toInt := by unfold mj_hv; rw [q_o, q_l]
                                  exact ih2 x_54 x_36 bl2 br2 (om_489 LP2_h0 i_54) (by rw [st]; omega) (mj_lg_skip (i := i.toNatClampNeg) (r := j.toNatClampNeg) LP2_h2 (fun l r => by unfold mj_D2 mj_D; omega) (fun l r h => by unfold mj_D2 mj_D at h; omega) (Or.inr ⟨(by omega), (by omega)⟩)) (om_508 i_10 i_54) (om_520 i_44) (om_136 LP2_h5) (om_517 LP2_h6) (om_136 LP2_h7) (om_mu hn2 (om_239 i_54) (om_240 i_10)) _ _ hP hD hS ls (lv_sub hl [0, 1, 2, 3, 4, 5, 6, 7, 8, 9] rfl)
                    have k_57 : (0 : Int32).toInt = 0 := rfl
                    exact LP2 ((m_n.toInt + 1 - y_9.toInt : Int).toNat + 1) y_9 0 bl br (om_491 i_9) (by rw [show y_9.toNatClampNeg - 1 - i.toNatClampNeg = 0 by omega]; rfl) (mj_lg_iff LP1_h1 (fun l r => by unfold mj_D2 mj_D; omega)) (om_509 i_7 i_9) (om_517 LP1_h3) (om_136 LP1_h4) (om_517 LP1_h5) (om_136 LP1_h6) (Nat.lt_succ_self _) _ _ hP hD hS ls (lv_sub hl [0, 1, 2, 3, 4, 5, 6, 7, 8, 9] rfl)
              have k_58 : (0 : Int32).toInt = 0 := rfl
              have k_59 : ((-1) : Int32).toInt = -1 := rfl
              have k_60 : ((-1) : Int32).toInt = -1 := rfl
              exact LP1 ((m_n.toInt - 0 : Int).toNat + 1) 0 (-1) (-1) om_35 (Or.inl ⟨rfl, rfl, fun l r h => absurd h.1 (Nat.not_lt_zero l)⟩) (om_10 a0) om_521 om_522 om_521 om_522 (Nat.lt_succ_self _) _ _ hP hD hS ls (lv_sub hl [0, 1, 2, 3, 4, 5, 6, 7] rfl)
            · exact absurd c_6 (by decide)
          · have w_5 : (p3.toInt < 0 ∨ 1 < p3.toInt) := w_5
            refine lv_if_ne (tgt := 32) hx hb dX5_longest_27 (by decide) (fun c_61 => ?_) (fun c_61 => ?_)
            · exact absurd c_61 (by decide)
            · refine lv_iconst (v := (-1)) hx hb dX5_longest_30 (by decide) ?_
              have hP9 := hP
              have hD9 := hD
              have hK9 := hK
              exact W.iret (v := (-1)) hx hb hr (hlocks := hlocks) (fun t ht hW => ⟨⟨(-1), (), rfl, (Or.inr ⟨(by (try dsimp only); omega), rfl⟩), by rw [ht]; exact hP9, va_K.moved hW.alike hK9, hD9⟩, hS.F ht⟩) hS.2.2 dX5_longest_31
      · have w_3 : (p1.toInt < 1 ∨ p2.toInt < p1.toInt ∨ 999 < p2.toInt) := w_3
        refine lv_if_eq (tgt := 30) hx hb dX5_longest_17 (by decide) (fun c_62 => ?_) (fun c_62 => ?_)
        · refine lv_iconst (v := (-1)) hx hb dX5_longest_30 (by decide) ?_
          have hP9 := hP
          have hD9 := hD
          have hK9 := hK
          exact W.iret (v := (-1)) hx hb hr (hlocks := hlocks) (fun t ht hW => ⟨⟨(-1), (), rfl, (Or.inr ⟨(by (try dsimp only); omega), rfl⟩), by rw [ht]; exact hP9, va_K.moved hW.alike hK9, hD9⟩, hS.F ht⟩) hS.2.2 dX5_longest_31
        · exact absurd c_62 (by decide)
  · have w_1 : (p0.toInt < -32768 ∨ 32767 < p0.toInt) := w_1
    refine lv_if_eq (tgt := 30) hx hb dX5_longest_9 (by decide) (fun c_63 => ?_) (fun c_63 => ?_)
    · refine lv_iconst (v := (-1)) hx hb dX5_longest_30 (by decide) ?_
      have hP9 := hP
      have hD9 := hD
      have hK9 := hK
      exact W.iret (v := (-1)) hx hb hr (hlocks := hlocks) (fun t ht hW => ⟨⟨(-1), (), rfl, (Or.inr ⟨(by (try dsimp only); omega), rfl⟩), by rw [ht]; exact hP9, va_K.moved hW.alike hK9, hD9⟩, hS.F ht⟩) hS.2.2 dX5_longest_31
    · exact absurd c_63 (by decide)


