/-! the steps that only tell; the trial runs -/
theorem gs_ro1 {n nn : Nat} {o z t r : gh_B} (hW : gs_W n nn o z t r) (a : Int32) : gm_k1 (gm_no r 1) (gm_z r) a 0 0 = gc_k1 a ∧ gs_W n nn o z t (gm_k1 (gm_no r 1) (gm_z r) a) := by
  rw [gs_t1 (gm_no r 1) (gm_no r 2) (gm_no r 3)]
  refine ⟨gs_kr r _ (gs_4k1 a) rfl, ?_⟩
  by_cases q : gc_k1 a = 0
  · rw [gs_kp q]; exact hW.z
  · exact gs_kw hW (gs_4k1 a) q _
theorem gs_ro2 {n nn : Nat} {o z t r : gh_B} (hW : gs_W n nn o z t r) (a b : Int32) : gm_k2 (gm_no r 1) (gm_z r) a b 0 0 = gc_k2 a b ∧ gs_W n nn o z t (gm_k2 (gm_no r 1) (gm_z r) a b) := by
  rw [gs_t2 (gm_no r 1) (gm_no r 2) (gm_no r 3)]
  refine ⟨gs_kr r _ (gs_4k2 a b) rfl, ?_⟩
  by_cases q : gc_k2 a b = 0
  · rw [gs_kp q]; exact hW.z
  · exact gs_kw hW (gs_4k2 a b) q _
theorem gs_ro3 {n nn : Nat} {o z t r : gh_B} (hW : gs_W n nn o z t r) (a b : Int32) : gm_k3 (gm_no r 1) (gm_no r 2) (gm_z r) a b 0 0 = gc_k3 a b ∧ gs_W n nn o z t (gm_k3 (gm_no r 1) (gm_no r 2) (gm_z r) a b) := by
  rw [gs_t3 (gm_no r 1) (gm_no r 2) (gm_no r 3)]
  refine ⟨gs_kr r _ (gs_4k3 a b) rfl, ?_⟩
  by_cases q : gc_k3 a b = 0
  · rw [gs_kp q]; exact hW.z
  · exact gs_kw hW (gs_4k3 a b) q _
theorem gs_k1o {a : Int32} (h : gc_k1 a = 0) : ¬ a = 0 := fun e => by rw [gc_k1, if_pos e] at h; exact absurd h (by decide)
theorem gs_k2o {a b : Int32} (h : gc_k2 a b = 0) : ¬ a = 0 ∧ ¬ b = 0 := by
  have h1 : ¬ a = 0 := fun e => by rw [gc_k2, if_pos e] at h; exact absurd h (by decide)
  exact ⟨h1, fun e => by rw [gc_k2, if_neg h1, if_pos e] at h; exact absurd h (by decide)⟩
theorem gs_k3o {a b : Int32} (h : gc_k3 a b = 0) : ¬ a = 0 ∧ ¬ b = 0 := by
  have h1 : ¬ a = 0 := fun e => by rw [gc_k3, if_pos e] at h; exact absurd h (by decide)
  exact ⟨h1, fun e => by rw [gc_k3, if_neg h1, if_pos e] at h; exact absurd h (by decide)⟩
theorem gs_iwk {x : Int32} {hi : Int32} {b : Nat} (h : ¬ gh_iw x 0 hi = 0) (hb : hi.toInt = (b : Int)) (hb2 : b < 2 ^ 31) : ∃ m : Nat, m ≤ b ∧ x = nI m ∧ x.toNatClampNeg = m := by
  obtain ⟨q1, q2⟩ := gs_iw h
  obtain ⟨m, -, m2, m3⟩ := gs_nat (a := 0) (b := b) q1 (by rw [← hb]; exact q2) hb2
  exact ⟨m, m2, m3, by rw [m3, nI_clamp (by omega)]⟩
theorem gs_glass {n nn : Nat} {o z t r : gh_B} (hW : gs_W n nn o z t r) (y v : Int32) : gc_k2 (gh_rg y (o 10 0)) (gh_iw v 0 7) = 0 → gm_k2 0 (gm_gl (gm_z r) t n y.toNatClampNeg v.toNatClampNeg) (gh_iw y 0 (nI n - 1)) (gh_iw v 0 7) = gc_gl o n y.toNatClampNeg v.toNatClampNeg := by
  have hn := hW.1.1.1
  rw [gs_rgi (by omega), hW.1.1.2.1]
  intro q
  obtain ⟨c1, c2⟩ := gs_k2o q
  rw [gs_t2 0 0 0, gs_kp q]
  obtain ⟨k, hk, -, ek⟩ := gs_rgk c1 (by omega)
  obtain ⟨w, hw, -, ew⟩ := gs_iwk (b := 7) c2 (by decide) (by decide)
  rw [ek, ew]
  exact (gs_gl hn hW.z.1.2.2.2 hk (by omega)).symm
theorem gs_row {n nn : Nat} {o z t r : gh_B} (hW : gs_W n nn o z t r) (y v : Int32) : gc_k2 (gh_iw y 0 3) (gh_iw v 0 2) = 0 → gm_k2 0 (gm_rt (gm_z r) t n y v) (gh_iw y 0 3) (gh_iw v 0 2) = gc_rw o n y v.toNatClampNeg := by
  intro q
  obtain ⟨c1, c2⟩ := gs_k2o q
  rw [gs_t2 0 0 0, gs_kp q]
  obtain ⟨k, hk, -, ek⟩ := gs_iwk (b := 3) c1 (by decide) (by decide)
  obtain ⟨w, hw, ew', ew⟩ := gs_iwk (b := 2) c2 (by decide) (by decide)
  rw [ew, ew']
  exact (gs_rw hW.1.2.2.1 hW.z.1.2.2.2 (by omega) (by omega)).symm
theorem gs_written {n nn : Nat} {o z t r : gh_B} (hW : gs_W n nn o z t r) (y v : Int32) : gc_k2 (gh_rg y (z 3 0)) (gh_iw v 0 2) = 0 → gm_k2 0 (r 3 (3 * y.toNatClampNeg + v.toNatClampNeg)) (gh_iw y 0 (nI nn - 1)) (gh_iw v 0 2) = gc_wr z y.toNatClampNeg v.toNatClampNeg := by
  have hn := hW.2.1.1
  rw [gs_rgi (by omega), hW.2.1.2.2.1]
  intro q
  obtain ⟨c1, c2⟩ := gs_k2o q
  rw [gs_t2 0 0 0, gs_kp q]
  obtain ⟨k, hk, -, ek⟩ := gs_rgk c1 (by omega)
  obtain ⟨w, hw, -, ew⟩ := gs_iwk (b := 2) c2 (by decide) (by decide)
  rw [ek, ew]
  exact (gs_wr hW.2.1 hk (by omega)).symm
theorem gs_count {n nn : Nat} {o z t r : gh_B} (hW : gs_W n nn o z t r) (y : Int32) : gc_k1 (gh_iw y 0 8) = 0 → gm_k1 0 (gm_cl (gm_z r) t n nn y.toNatClampNeg) (gh_iw y 0 8) = gc_cl o z n y.toNatClampNeg := by
  intro q
  have c1 := gs_k1o q
  rw [gs_t1 0 0 0, gs_kp q]
  obtain ⟨w, hw, -, ew⟩ := gs_iwk (b := 8) c1 (by decide) (by decide)
  rw [ew]
  exact (gs_cl hW.z.1 hW.z.2.1 (by omega)).symm
theorem gs_needs {n nn : Nat} {o z t r : gh_B} (hW : gs_W n nn o z t r) (y v : Int32) : gc_k3 (gh_rg y (o 10 0)) (gh_iw v 0 120) = 0 → gm_k3 0 0 (gm_nd (gm_z r) y.toNatClampNeg v) (gh_iw y 0 (nI n - 1)) (gh_iw v 0 120) = gh_fw o y.toNatClampNeg v := by
  have hn := hW.1.1.1
  rw [gs_rgi (by omega), hW.1.1.2.1]
  intro q
  obtain ⟨c1, c2⟩ := gs_k3o q
  rw [gs_t3 0 0 0, gs_kp q]
  obtain ⟨k, hk, -, ek⟩ := gs_rgk c1 (by omega)
  rw [ek]
  exact (gs_fw hW.z.1.2.2.2 hk v).symm
/-! the trial -/
theorem gs_tk_n (q o : gh_B) {j : Nat} (hj : 7 ≤ j) : ∀ i, gh_tk q o i j = o j
  | 0 => rfl
  | i + 1 => by
    rw [gh_tk, gh_sn _ _ (by omega), gh_sn _ _ (by omega), gh_sn _ _ (by omega), gh_sn _ _ (by omega), gh_sn _ _ (by omega), gh_sn _ _ (by omega)]
    exact gs_tk_n q o hj i
theorem gs_tk_k (q o : gh_B) : ∀ i k : Nat, k < i → gh_tk q o i 1 k = q 1 k ∧ gh_tk q o i 2 k = q 2 k ∧ gh_tk q o i 3 k = q 3 k ∧ gh_tk q o i 4 k = vp_nar .boolean (q 4 k) ∧ gh_tk q o i 5 k = q 5 k ∧ gh_tk q o i 6 k = q 6 k
  | 0, k, h => absurd h (Nat.not_lt_zero k)
  | i + 1, k, h => by
    show upd (gh_tk q o i 1) i (q 1 i) k = q 1 k ∧ upd (gh_tk q o i 2) i (q 2 i) k = q 2 k ∧ upd (gh_tk q o i 3) i (q 3 i) k = q 3 k ∧ upd (gh_tk q o i 4) i (vp_nar .boolean (q 4 i)) k = vp_nar .boolean (q 4 k) ∧ upd (gh_tk q o i 5) i (q 5 i) k = q 5 k ∧ upd (gh_tk q o i 6) i (q 6 i) k = q 6 k
    by_cases e : k = i
    · subst e
      simp only [pk_us]
      exact ⟨trivial, trivial, trivial, trivial, trivial, trivial⟩
    · simp only [pk_un e]
      exact gs_tk_k q o i k (by omega)
theorem gs_ta_n (q o : gh_B) {j : Nat} (h8 : j ≠ 8) (h9 : j ≠ 9) : ∀ i, gh_ta q o i j = o j
  | 0 => rfl
  | i + 1 => by
    rw [gh_ta, gh_sn _ _ h9, gh_sn _ _ h8]
    exact gs_ta_n q o h8 h9 i
theorem gs_ta_k (q o : gh_B) : ∀ i k : Nat, k < i → gh_ta q o i 8 k = q 8 k ∧ gh_ta q o i 9 k = q 9 k
  | 0, k, h => absurd h (Nat.not_lt_zero k)
  | i + 1, k, h => by
    show upd (gh_ta q o i 8) i (q 8 i) k = q 8 k ∧ upd (gh_ta q o i 9) i (q 9 i) k = q 9 k
    by_cases e : k = i
    · subst e
      simp only [pk_us]
      exact ⟨trivial, trivial⟩
    · simp only [pk_un e]
      exact gs_ta_k q o i k (by omega)
theorem gs_nar {x : Int32} (h : x = 0 ∨ x = 1) : vp_nar .boolean x = x := by
  rcases h with rfl | rfl <;> rfl
theorem gs_cpy {f g : Nat → Int32} {n k : Nat} (h : k < n) : va_cpy f g 0 0 n k = f k := by
  unfold va_cpy
  rw [if_pos ⟨Nat.zero_le k, by omega⟩, Nat.sub_zero, Nat.zero_add]
theorem gs_to {n : Nat} {o t r : gh_B} (hR : gs_R n o t r) (q p : gh_B) : gs_R n (gh_to o q n) (gm_bc t p) r := by
  obtain ⟨⟨hn, h0, h4⟩, hC, hA, hG⟩ := hR
  refine ⟨⟨hn, h0, h4⟩, hC, fun j hj => ?_, fun k hk => ?_⟩
  · show gh_ta o (gh_tk o q n) 4 8 j = va_cpy (t 4) (p 4) 0 0 4 j ∧ gh_ta o (gh_tk o q n) 4 9 j = va_cpy (t 5) (p 5) 0 0 4 j
    rw [gs_cpy hj, gs_cpy hj, (gs_ta_k o _ 4 j hj).1, (gs_ta_k o _ 4 j hj).2]
    exact hA j hj
  · have g := hG k hk
    obtain ⟨a1, a2, a3, a4, a5, a6⟩ := gs_tk_k o q n k hk
    refine ⟨?_, g.2.1, g.2.2.1, ?_⟩
    · show gh_ta o (gh_tk o q n) 4 1 k = r 5 k ∧ gh_ta o (gh_tk o q n) 4 2 k = r 6 k ∧ gh_ta o (gh_tk o q n) 4 3 k = va_cpy (t 6) (p 6) 0 0 16 k ∧ gh_ta o (gh_tk o q n) 4 4 k = va_cpy (t 7) (p 7) 0 0 16 k ∧ gh_ta o (gh_tk o q n) 4 5 k = va_cpy (t 8) (p 8) 0 0 16 k ∧ gh_ta o (gh_tk o q n) 4 6 k = va_cpy (t 9) (p 9) 0 0 16 k
      rw [gs_ta_n _ _ (by decide) (by decide), gs_ta_n _ _ (by decide) (by decide), gs_ta_n _ _ (by decide) (by decide), gs_ta_n _ _ (by decide) (by decide), gs_ta_n _ _ (by decide) (by decide), gs_ta_n _ _ (by decide) (by decide), a1, a2, a3, a4, a5, a6, gs_cpy (by omega), gs_cpy (by omega), gs_cpy (by omega), gs_cpy (by omega), g.1.2.2.2.1, gs_nar g.2.2.2]
      exact ⟨g.1.1, g.1.2.1, g.1.2.2.1, rfl, g.1.2.2.2.2⟩
    · show va_cpy (t 7) (p 7) 0 0 16 k = 0 ∨ va_cpy (t 7) (p 7) 0 0 16 k = 1
      rw [gs_cpy (by omega)]
      exact g.2.2.2
theorem gs_foresee {n nn : Nat} {o z t r : gh_B} (hW : gs_W n nn o z t r) (q p : gh_B) (y v : Int32) : gc_k3 (gh_iw y 1 150) (gh_iw v 0 3) = 0 → gm_k3 0 0 (gm_fs (gm_z r) t p n nn y.toNatClampNeg v.toNatClampNeg) (gh_iw y 1 150) (gh_iw v 0 3) = gc_fs o (gh_go z (gh_to o q n) n nn y.toNatClampNeg) n v.toNatClampNeg := by
  intro e
  obtain ⟨c1, c2⟩ := gs_k3o e
  rw [gs_t3 0 0 0, gs_kp e]
  obtain ⟨w, hw, -, ew⟩ := gs_iwk (b := 3) c2 (by decide) (by decide)
  have hg := gs_go (gs_to hW.z.1 q p) hW.z.2.1 y.toNatClampNeg
  rw [ew]
  rcases gx_4 (show w < 4 by omega) with rfl | rfl | rfl | rfl
  · show gm_go (gm_z r) (gm_bc t p) n nn y.toNatClampNeg 1 0 - t 1 0 = _
    rw [← hg.2.1.2.1, ← hW.1.2.1.2.1]; rfl
  · show gm_go (gm_z r) (gm_bc t p) n nn y.toNatClampNeg 2 0 - t 2 0 = _
    rw [← hg.2.1.2.2.1, ← hW.1.2.1.2.2.1]; rfl
  · show gm_go (gm_z r) (gm_bc t p) n nn y.toNatClampNeg 3 0 - t 3 0 = _
    rw [← hg.2.1.2.2.2, ← hW.1.2.1.2.2.2]; rfl
  · exact (gs_cn (fun k hk => ⟨(hg.2.2.2 k hk).1.2.2.2.1, (hg.2.2.2 k hk).2.2.2⟩) n (Nat.le_refl n)).symm
