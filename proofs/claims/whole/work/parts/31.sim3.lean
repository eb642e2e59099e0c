/-! what is told: side by side -/
theorem gs_1 : (1 : Int32).toInt = 1 := by decide
theorem gs_2 : (2 : Int32).toInt = 2 := by decide
theorem gs_12 (D : Int32) : gh_iw D 1 2 = if D = 1 then 1 else if D = 2 then 1 else 0 := by
  unfold gh_iw
  have e1 : D = 1 ↔ D.toInt = 1 := by rw [← Int32.toInt_inj, gs_1]
  have e2 : D = 2 ↔ D.toInt = 2 := by rw [← Int32.toInt_inj, gs_2]
  by_cases c1 : D < 1
  · rw [if_pos c1, if_neg (by rw [e1]; rw [gs_lt, gs_1] at c1; omega), if_neg (by rw [e2]; rw [gs_lt, gs_1] at c1; omega)]
  · rw [if_neg c1]
    by_cases c2 : 2 < D
    · rw [if_pos c2, if_neg (by rw [e1]; rw [gs_lt, gs_2] at c2; omega), if_neg (by rw [e2]; rw [gs_lt, gs_2] at c2; omega)]
    · rw [if_neg c2]
      by_cases c3 : D = 1
      · rw [if_pos c3]
      · rw [if_neg c3, if_pos (by rw [e2]; rw [gs_lt, gs_1] at c1; rw [gs_lt, gs_2] at c2; rw [e1] at c3; omega)]
theorem gs_ba {n : Nat} {o t r : gh_B} (hG : gs_G n o t r) {k i : Nat} (hk : k < n) (hi : i < n) : gh_ba o k i = gm_ag r t i k := by
  have gk := hG k hk
  have gi := hG i hi
  unfold gh_ba gm_ag
  rw [gk.1.2.2.2.2.1, gi.1.2.2.2.2.1, gk.tn, gi.tn, gs_dss, gs_ds (show 0 ≤ gm_tn r t i from gs_m0 _) (show 0 ≤ gm_tn r t k from gs_m0 _), gs_12]
  by_cases c1 : t 8 i ≤ 0
  · rw [if_pos c1]
    by_cases c2 : t 8 k < 1
    · rw [if_pos c2]
    · rw [if_neg c2, if_neg (by rw [gs_le, gs_0] at c1; rw [gs_le, gs_1]; omega)]
  · rw [if_neg c1]
    by_cases c2 : t 8 k < 1
    · rw [if_pos c2, if_pos (by rw [gs_lt, gs_1] at c2; rw [gs_le, gs_0]; omega)]
    · rw [if_neg c2, if_pos (show 1 ≤ t 8 i by rw [gs_le, gs_0] at c1; rw [gs_le, gs_1]; omega), if_neg (show ¬ t 8 k ≤ 0 by rw [gs_lt, gs_1] at c2; rw [gs_le, gs_0]; omega)]
theorem gs_ag0 (r t : gh_B) (k : Nat) : gm_ag r t k k = 0 := by
  unfold gm_ag
  rw [Int32.sub_self]
  split
  · rfl
  · rfl
theorem gs_an {n : Nat} {o t r : gh_B} (hn : n ≤ 16) (hG : gs_G n o t r) {k : Nat} (hk : k < n) : ∀ i : Nat, i ≤ n → gh_cn (gh_ba o k) i = gm_an r t k i := by
  intro i
  induction i with
  | zero => intro _; rfl
  | succ i ih =>
    intro hi
    rw [gh_cn, gm_an, ih (by omega), gs_ba hG hk (i := i) (by omega)]
    by_cases e : i = k
    · subst e
      rw [if_pos (gs_ag0 r t i), if_pos rfl, Int32.add_zero]
    · rw [if_neg (c := nI i = nI k) (by rw [nI_eq (by omega) (by omega)]; exact e)]
      split
      · rw [Int32.add_zero]
      · rfl
theorem gs_cn {f g : Nat → Int32} {n : Nat} (h : ∀ k : Nat, k < n → f k = g k ∧ (g k = 0 ∨ g k = 1)) : ∀ i : Nat, i ≤ n → gh_cn f i = gh_sm g i := by
  intro i
  induction i with
  | zero => intro _; rfl
  | succ i ih =>
    intro hi
    obtain ⟨h1, h2⟩ := h i (by omega)
    rw [gh_cn, gh_sm, ih (by omega), h1]
    rcases h2 with h2 | h2
    · rw [if_pos h2, h2, Int32.add_zero]
    · rw [if_neg (by rw [h2]; decide), h2]
theorem gs_sm {f g : Nat → Int32} {n : Nat} (h : ∀ k : Nat, k < n → f k = g k) : ∀ i : Nat, i ≤ n → gh_sm f i = gh_sm g i := by
  intro i
  induction i with
  | zero => intro _; rfl
  | succ i ih =>
    intro hi
    rw [gh_sm, gh_sm, ih (by omega), h i (by omega)]
theorem gs_cr {f g : Nat → Int32} {n : Nat} (y : Int32) (h : ∀ k : Nat, k < n → f k = g k) : ∀ i : Nat, i ≤ n → gh_cr f y i = gm_rs g y i := by
  intro i
  induction i with
  | zero => intro _; rfl
  | succ i ih =>
    intro hi
    rw [gh_cr, gm_rs, ih (by omega), h i (by omega)]
    split
    · rfl
    · rw [Int32.add_zero]
theorem gs_gl {n : Nat} {o t r : gh_B} (hn : n ≤ 16) (hG : gs_G n o t r) {k : Nat} (hk : k < n) {w : Nat} (hw : w < 8) : gc_gl o n k w = gm_gl r t n k w := by
  have g := hG k hk
  rcases gx_8 hw with rfl | rfl | rfl | rfl | rfl | rfl | rfl | rfl
  · exact g.1.1
  · exact g.1.2.1
  · exact g.1.2.2.1
  · exact g.tn
  · show (if o 4 k = 0 then (0 : Int32) else 1) = t 7 k
    rw [g.1.2.2.2.1]
    rcases g.2.2.2 with h | h
    · rw [if_pos h, h]
    · rw [if_neg (by rw [h]; decide), h]
  · exact g.1.2.2.2.2.1
  · exact g.1.2.2.2.2.2
  · exact gs_an hn hG hk n (Nat.le_refl n)
theorem gs_rw {n : Nat} {o t r : gh_B} (hA : gs_A o t) (hG : gs_G n o t r) {y : Int32} (hy : y.toNatClampNeg < 4) {w : Nat} (hw : w < 3) : gc_rw o n y w = gm_rt r t n y (nI w) := by
  rcases gx_3 hw with rfl | rfl | rfl
  · exact (hA _ hy).1.trans (if_pos rfl).symm
  · exact (hA _ hy).2.trans ((if_neg (by decide)).trans (if_pos rfl)).symm
  · exact (gs_cr y (fun k hk => (hG k hk).1.1) n (Nat.le_refl n)).trans ((if_neg (by decide)).trans (if_neg (by decide))).symm
theorem gs_cl {n nn : Nat} {o t r z : gh_B} (hR : gs_R n o t r) (hS : gs_S nn z r) {w : Nat} (hw : w < 9) : gc_cl o z n w = gm_cl r t n nn w := by
  obtain ⟨⟨hn, h0, h4⟩, hC, hA, hG⟩ := hR
  rcases gx_9 hw with rfl | rfl | rfl | rfl | rfl | rfl | rfl | rfl | rfl
  · exact hC.1
  · exact h0
  · exact gs_cn (fun k hk => ⟨(hG k hk).1.2.2.2.1, (hG k hk).2.2.2⟩) n (Nat.le_refl n)
  · exact hS.2.2.1
  · exact hC.2.1
  · exact hC.2.2.1
  · exact hC.2.2.2
  · exact gs_sm (fun k hk => (hA k hk).1) 4 (Nat.le_refl 4)
  · exact congrArg (· / 2) (gs_sm (fun k hk => gs_an hn hG hk n (Nat.le_refl n)) n (Nat.le_refl n))
theorem gs_d1 {f g : Nat → Int32} {n : Nat} {d d' : Int64} (hd : d = d') (h : ∀ k : Nat, k < n → f k = g k) : ∀ i : Nat, i ≤ n → gd_1 f d i = gd_1 g d' i := by
  intro i
  induction i with
  | zero => intro _; exact hd
  | succ i ih =>
    intro hi
    rw [gd_1, gd_1, ih (by omega), h i (by omega)]
theorem gs_d2 {f g : Nat → Nat → Int32} {n m : Nat} {d d' : Int64} (hd : d = d') (h : ∀ k : Nat, k < n → ∀ w : Nat, w < m → f k w = g k w) : ∀ i : Nat, i ≤ n → gd_2 f m d i = gd_2 g m d' i := by
  intro i
  induction i with
  | zero => intro _; exact hd
  | succ i ih =>
    intro hi
    rw [gd_2, gd_2]
    exact gs_d1 (ih (by omega)) (h i (by omega)) m (Nat.le_refl m)
theorem gs_d3 (f : Nat → Int32) (g : Nat → Nat → Int32) (d : Int64) (nn : Nat) (h : ∀ k : Nat, k < nn → ∀ w : Nat, w < 3 → g k w = f (3 * k + w)) : ∀ i : Nat, i ≤ nn → gd_2 g 3 d i = gd_1 f d (3 * i) := by
  intro i
  induction i with
  | zero => intro _; rfl
  | succ i ih =>
    intro hi
    show gd_1 (g i) (gd_2 g 3 d i) 3 = gd_1 f d (3 * i + 3)
    show (((gd_2 g 3 d i) * 31 + (g i 0).toInt64) * 31 + (g i 1).toInt64) * 31 + (g i 2).toInt64 = ((gd_1 f d (3 * i) * 31 + (f (3 * i)).toInt64) * 31 + (f (3 * i + 1)).toInt64) * 31 + (f (3 * i + 2)).toInt64
    rw [ih (by omega), h i (by omega) 0 (by omega), h i (by omega) 1 (by omega), h i (by omega) 2 (by omega), Nat.add_zero]
theorem gs_wr {nn : Nat} {z r : gh_B} (hS : gs_S nn z r) {k w : Nat} (hk : k < nn) (hw : w < 3) : gc_wr z k w = r 3 (3 * k + w) := by
  have h := hS.2.2.2.2.2 k hk
  rcases gx_3 hw with rfl | rfl | rfl
  · exact h.1
  · exact h.2.1
  · exact h.2.2.1
theorem gs_dg {n nn : Nat} {o t r z : gh_B} (hR : gs_R n o t r) (hS : gs_S nn z r) : gc_dg o z n nn = gm_dg r t n nn := by
  unfold gc_dg gm_dg
  rw [gs_d3 (r 3) (fun k => gc_wr z k) _ nn (fun k hk w hw => gs_wr hS hk hw) nn (Nat.le_refl nn)]
  refine gs_d1 ?_ (fun k _ => rfl) _ (Nat.le_refl _)
  refine gs_d2 ?_ (fun k hk w hw => ?_) 4 (Nat.le_refl 4)
  · refine gs_d2 ?_ (fun k hk w hw => gs_gl hR.1.1 hR.2.2.2 hk hw) n (Nat.le_refl n)
    rw [gs_d1 rfl (fun k hk => gs_cl hR hS hk) 9 (Nat.le_refl 9), hS.2.2.2.1]
  · exact gs_rw hR.2.2.1 hR.2.2.2 (by rw [nI_clamp (by omega)]; exact hk) hw
theorem gs_fw {n : Nat} {o t r : gh_B} (hG : gs_G n o t r) {k : Nat} (hk : k < n) (u : Int32) : gh_fw o k u = gm_nd r k u := by
  unfold gh_fw gm_nd
  rw [(hG k hk).1.2.1]
