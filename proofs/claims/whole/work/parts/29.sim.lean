/-! the class and the reference, side by side: numbers only -/
theorem gs_le {x y : Int32} : x ≤ y ↔ x.toInt ≤ y.toInt := Int32.le_iff_toInt_le
theorem gs_lt {x y : Int32} : x < y ↔ x.toInt < y.toInt := Int32.lt_iff_toInt_lt
theorem gs_0 : (0 : Int32).toInt = 0 := by decide
theorem gs_nlt {x y : Int32} : ¬ x ≤ y ↔ y < x := by rw [gs_le, gs_lt]; omega
theorem gs_m0 (x : Int32) : 0 ≤ gh_m0 x := by
  unfold gh_m0
  split
  · rename_i h; rw [gs_lt] at h; rw [gs_le]; omega
  · rw [gs_le]; omega
theorem gs_sub {x y : Int32} (hx : 0 ≤ x) (hy : 0 ≤ y) : (x - y).toInt = x.toInt - y.toInt := by
  rw [gs_le, gs_0] at hx hy
  have h1 := x.toInt_lt
  have h2 := y.toInt_lt
  rw [Int32.toInt_sub, Int.bmod_eq_of_le (by omega) (by omega)]
theorem gs_ds {x y : Int32} (hx : 0 ≤ x) (hy : 0 ≤ y) : gh_ds x y = gm_ab (x - y) := by
  unfold gh_ds gm_ab
  have h := gs_sub hx hy
  by_cases h1 : y ≤ x
  · rw [if_pos h1, if_pos (by rw [gs_le] at h1; rw [gs_le, gs_0]; omega)]
  · rw [if_neg h1, if_neg (by rw [gs_le] at h1; rw [gs_le, gs_0]; omega)]
    rw [Int32.zero_sub, Int32.neg_sub]
theorem gs_dss (x y : Int32) : gh_ds x y = gh_ds y x := by
  unfold gh_ds
  by_cases h1 : y ≤ x
  · by_cases h2 : x ≤ y
    · have e : x = y := Int32.toInt_inj.mp (by rw [gs_le] at h1 h2; omega)
      rw [e]
    · rw [if_pos h1, if_neg h2]
  · rw [if_neg h1, if_pos (by rw [gs_le] at h1 ⊢; omega)]
theorem gs_49 {m : Nat} (h1 : 1 ≤ m) (h2 : m ≤ 9) : ¬ 4 * nI m ≤ 0 := by
  rcases (show m = 1 ∨ m = 2 ∨ m = 3 ∨ m = 4 ∨ m = 5 ∨ m = 6 ∨ m = 7 ∨ m = 8 ∨ m = 9 by omega) with rfl | rfl | rfl | rfl | rfl | rfl | rfl | rfl | rfl <;> decide
theorem gs_tn {o t r : gh_B} {k : Nat} (h1 : o 2 k = r 6 k) (h2 : o 3 k = t 6 k) (hm : ∃ m : Nat, 1 ≤ m ∧ m ≤ 9 ∧ r 6 k = nI m) : gh_tn o k = gm_tn r t k := by
  obtain ⟨m, m1, m2, m3⟩ := hm
  have e : gh_lw o k = o 3 k / (4 * o 2 k) := by
    unfold gh_lw
    rw [if_neg (by rw [h1, m3]; exact gs_49 m1 m2)]
  unfold gh_tn gm_tn gh_m0
  rw [e, h1, h2]
theorem gs_or (b c s : Int32) : ((b ||| c) >>> s) &&& 1 = ((b >>> s) &&& 1) ||| ((c >>> s) &&& 1) := by
  apply Int32.toBitVec_inj.mp
  simp only [Int32.toBitVec_and, Int32.toBitVec_or, Int32.toBitVec_shiftRight, BitVec.sshiftRight_eq']
  ext i hi
  simp [BitVec.getElem_sshiftRight]
  grind
theorem gs_bk : ∀ i : Fin 16, ∀ k : Fin 16, (((1 : Int32) <<< (nI k.1 &&& 31)) >>> (nI i.1 &&& 31)) &&& 1 = if i.1 = k.1 then 1 else 0 := by decide +kernel
theorem gs_bz {b : Int32} {i k : Nat} (hi : i < 16) (hk : k < 16) (h : ((b >>> (nI i &&& 31)) &&& 1) = 0 ∨ ((b >>> (nI i &&& 31)) &&& 1) = 1) : ((b ||| ((1 : Int32) <<< (nI k &&& 31))) >>> (nI i &&& 31)) &&& 1 = if i = k then 1 else ((b >>> (nI i &&& 31)) &&& 1) := by
  rw [gs_or, gs_bk ⟨i, hi⟩ ⟨k, hk⟩]
  show _ ||| (if i = k then (1 : Int32) else 0) = _
  by_cases e : i = k
  · rw [if_pos e, if_pos e]
    rcases h with h | h <;> rw [h] <;> decide
  · rw [if_neg e, if_neg e]
    rcases h with h | h <;> rw [h] <;> decide
def gs_g (o t r : gh_B) (k : Nat) : Prop := (o 1 k = r 5 k ∧ o 2 k = r 6 k ∧ o 3 k = t 6 k ∧ o 4 k = t 7 k ∧ o 5 k = t 8 k ∧ o 6 k = t 9 k) ∧ (∃ w : Nat, w < 4 ∧ r 5 k = nI w) ∧ (∃ m : Nat, 1 ≤ m ∧ m ≤ 9 ∧ r 6 k = nI m) ∧ (t 7 k = 0 ∨ t 7 k = 1)
def gs_G (n : Nat) (o t r : gh_B) : Prop := ∀ k : Nat, k < n → gs_g o t r k
def gs_A (o t : gh_B) : Prop := ∀ j : Nat, j < 4 → o 8 j = t 4 j ∧ o 9 j = t 5 j
def gs_C (o t : gh_B) : Prop := o 11 0 = t 0 0 ∧ o 12 0 = t 1 0 ∧ o 13 0 = t 2 0 ∧ o 14 0 = t 3 0
def gs_B (n : Nat) (o t : gh_B) : Prop := ∀ k : Nat, k < n → (o 7 k = 0 ∧ gm_bz t k = 0) ∨ (o 7 k = 1 ∧ gm_bz t k = 1)
def gs_R (n : Nat) (o t r : gh_B) : Prop := (n ≤ 16 ∧ o 10 0 = nI n ∧ r 4 0 = nI n) ∧ gs_C o t ∧ gs_A o t ∧ gs_G n o t r
def gs_S (nn : Nat) (z r : gh_B) : Prop := nn ≤ 32 ∧ r 2 0 = nI nn ∧ z 3 0 = nI nn ∧ z 4 0 = r 1 0 ∧ (∃ L : Nat, 1 ≤ L ∧ L ≤ 64 ∧ r 1 0 = nI L) ∧ ∀ i : Nat, i < nn → z 0 i = r 3 (3 * i) ∧ z 1 i = r 3 (3 * i + 1) ∧ z 2 i = r 3 (3 * i + 2) ∧ 0 ≤ z 1 i
def gs_Z (n : Nat) (o t : gh_B) : Prop := ∀ k : Nat, n ≤ k → k < 16 → o 4 k = 0 ∧ o 5 k = 0 ∧ o 6 k = 0 ∧ t 7 k = 0 ∧ t 8 k = 0 ∧ t 9 k = 0
theorem gs_g.tn {o t r : gh_B} {k : Nat} (h : gs_g o t r k) : gh_tn o k = gm_tn r t k := gs_tn h.1.2.1 h.1.2.2.1 h.2.2.1
theorem gs_g.off {o t r : gh_B} {k : Nat} {u : Int32} (h : gs_g o t r k) (hu : 0 ≤ u) : gh_ds (gh_tn o k) u = gm_of r t k u := by
  rw [h.tn, gm_of]
  exact gs_ds (gs_m0 _) hu
theorem gs_iw3 {w : Nat} (h : w < 4) : gh_iw (nI w) 0 3 = 1 := by
  rcases (show w = 0 ∨ w = 1 ∨ w = 2 ∨ w = 3 by omega) with rfl | rfl | rfl | rfl <;> decide
theorem gs_ha {o t r : gh_B} {k : Nat} {f : Int32} (hA : gs_A o t) (h : gs_g o t r k) : gh_ha o (o 1 k) f = if t 4 (r 5 k).toNatClampNeg < f then 0 else 1 := by
  obtain ⟨w, hw, ew⟩ := h.2.1
  rw [h.1.1, ew, nI_clamp (by omega), gh_ha, gs_iw3 hw, if_neg (by decide), nI_clamp (by omega), (hA w hw).1]
theorem gs_pf {n : Nat} {o t r : gh_B} {u f : Int32} (hn : n ≤ 16) (hA : gs_A o t) (hG : gs_G n o t r) (hB : gs_B n o t) (hu : 0 ≤ u) : ∀ i : Nat, i ≤ n → (gh_pf o u f i).1 = gm_bs r t u f i ∧ ((gm_bs r t u f i = -1 ∧ (gh_pf o u f i).2 = 7) ∨ (∃ k : Nat, k < i ∧ gm_bs r t u f i = nI k ∧ (gh_pf o u f i).2 = gm_of r t k u ∧ gm_of r t k u ≤ 6 ∧ gh_ha o (o 1 k) f = 1)) := by
  intro i
  induction i with
  | zero => intro _; exact ⟨rfl, Or.inl ⟨rfl, rfl⟩⟩
  | succ i ih =>
    intro hi
    obtain ⟨e1, e2⟩ := ih (by omega)
    have hg := hG i (by omega)
    have hoff := hg.off hu
    have hha := gs_ha (f := f) hA hg
    have keep : (gh_pf o u f i).1 = gm_bs r t u f i ∧ ((gm_bs r t u f i = -1 ∧ (gh_pf o u f i).2 = 7) ∨ (∃ k : Nat, k < i + 1 ∧ gm_bs r t u f i = nI k ∧ (gh_pf o u f i).2 = gm_of r t k u ∧ gm_of r t k u ≤ 6 ∧ gh_ha o (o 1 k) f = 1)) := ⟨e1, e2.imp id (fun ⟨k, h1, h2⟩ => ⟨k, by omega, h2⟩)⟩
    have h4 := hg.1.2.2.2.1
    rcases hg.2.2.2 with h7 | h7
    · rcases hB i (by omega) with ⟨b1, b2⟩ | ⟨b1, b2⟩
      · by_cases ha : t 4 (r 5 i).toNatClampNeg < f
        · have eP : gh_pf o u f (i + 1) = gh_pf o u f i := by rw [gh_pf, if_pos (h4.trans h7), if_pos b1, if_pos (by rw [hha, if_pos ha])]
          have eM : gm_bs r t u f (i + 1) = gm_bs r t u f i := by rw [gm_bs, if_neg (by rw [h7]; decide), if_neg (by rw [b2]; decide), if_pos ha]
          rw [eP, eM]; exact keep
        · have ha1 : gh_ha o (o 1 i) f = 1 := by rw [hha, if_neg ha]
          have eP : gh_pf o u f (i + 1) = if (gh_pf o u f i).2 ≤ gm_of r t i u then gh_pf o u f i else (nI i, gm_of r t i u) := by rw [gh_pf, if_pos (h4.trans h7), if_pos b1, if_neg (by rw [ha1]; decide), hoff]
          have eM : gm_bs r t u f (i + 1) = if gm_of r t i u ≤ 6 then if gm_bs r t u f i = -1 then nI i else if gm_of r t (gm_bs r t u f i).toNatClampNeg u ≤ gm_of r t i u then gm_bs r t u f i else nI i else gm_bs r t u f i := by rw [gm_bs, if_neg (by rw [h7]; decide), if_neg (by rw [b2]; decide), if_neg ha]
          rw [eP, eM]
          rcases e2 with ⟨c1, c2⟩ | ⟨k, c1, c2, c3, c4, c5⟩
          · rw [c2, c1]
            by_cases h6 : gm_of r t i u ≤ 6
            · rw [if_neg (by rw [gs_le] at h6 ⊢; have : (6 : Int32).toInt = 6 := by decide
                             have : (7 : Int32).toInt = 7 := by decide
                             omega), if_pos h6, if_pos rfl]
              exact ⟨rfl, Or.inr ⟨i, by omega, rfl, rfl, h6, ha1⟩⟩
            · rw [if_pos (by rw [gs_le] at h6 ⊢; have : (6 : Int32).toInt = 6 := by decide
                             have : (7 : Int32).toInt = 7 := by decide
                             omega), if_neg h6]
              exact ⟨e1.trans c1, Or.inl ⟨rfl, c2⟩⟩
          · have ek : (nI k).toNatClampNeg = k := nI_clamp (by omega)
            have en : ¬ nI k = -1 := by
              intro q
              have := nI_pos (n := k) (by omega)
              rw [q] at this
              exact this (by decide)
            rw [c3, c2, if_neg en, ek]
            by_cases h6 : gm_of r t k u ≤ gm_of r t i u
            · rw [if_pos h6, if_pos h6]
              have e3 : (if gm_of r t i u ≤ 6 then nI k else nI k) = nI k := by split <;> rfl
              rw [e3]
              exact ⟨e1.trans c2, Or.inr ⟨k, by omega, rfl, c3, c4, c5⟩⟩
            · have h66 : gm_of r t i u ≤ 6 := by rw [gs_le] at h6 c4 ⊢; omega
              rw [if_neg h6, if_pos h66, if_neg h6]
              exact ⟨rfl, Or.inr ⟨i, by omega, rfl, rfl, h66, ha1⟩⟩
      · have eP : gh_pf o u f (i + 1) = gh_pf o u f i := by rw [gh_pf, if_pos (h4.trans h7), if_neg (by rw [b1]; decide)]
        have eM : gm_bs r t u f (i + 1) = gm_bs r t u f i := by rw [gm_bs, if_neg (by rw [h7]; decide), if_pos b2]
        rw [eP, eM]; exact keep
    · have eP : gh_pf o u f (i + 1) = gh_pf o u f i := by rw [gh_pf, if_neg (by rw [h4, h7]; decide)]
      have eM : gm_bs r t u f (i + 1) = gm_bs r t u f i := by rw [gm_bs, if_pos h7]
      rw [eP, eM]; exact keep
