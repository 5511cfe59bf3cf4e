theorem mj_old {K : Nat} {f f2 ff ft fs fo fe uv un : Nat → Int32} {nd n l r : Int} (hC : ∀ k : Nat, (k : Int) < nd → mj_ok K f ff ft fs fo fe uv un k) (ht : treeOk ff ft nd n) (hf : ∀ p : Nat, ((p : Int) < l ∨ r ≤ (p : Int)) → f2 p = f p) : ∀ k : Nat, (k : Int) < nd → ¬ mj_hit ff ft l r k → mj_ok K f2 ff ft fs fo fe uv un k := by
  intro k hk hn
  obtain ⟨d, μ, L, c, t⟩ := hC k hk
  obtain ⟨a1, a2, a3, a4⟩ := ht k hk
  have n1 := ki_nat (ff k) rfl a1
  have n2 := ki_nat (ft k) rfl (by omega)
  refine ⟨d, μ, L, c, mj_T_row d _ _ _ _ _ _ t (fun p h1 h2 => hf p ?_)⟩
  unfold mj_hit at hn
  omega
theorem mj_fill_out {f : Nat → Int32} {l r : Nat} {v : Int32} {p : Nat} (h : p < l ∨ r ≤ p) : mj_fill f l r v p = f p := by
  unfold mj_fill
  rw [if_neg (by omega)]
theorem mj_turn_out {f : Nat → Int32} {l r p : Nat} (h : p < l ∨ r ≤ p) : mj_turn f l r p = f p := by
  unfold mj_turn
  rw [if_neg (by omega)]
theorem mj_C_new {K : Nat} {f f2 ff ft fs fo fe uv un fs2 fo2 fe2 uv2 un2 : Nat → Int32} {nd n : Int} (h : mj_C K f ff ft fs fo fe uv un nd n) (ok : ∀ k : Nat, (k : Int) < nd → mj_ok K f2 ff ft fs2 fo2 fe2 uv2 un2 k) : mj_C K f2 ff ft fs2 fo2 fe2 uv2 un2 nd n := ⟨h.1, h.2.1, h.2.2.1, h.2.2.2.1, h.2.2.2.2.1, h.2.2.2.2.2.1, ok⟩


