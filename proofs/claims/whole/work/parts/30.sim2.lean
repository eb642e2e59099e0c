/-! one note, all notes, the fading, one beat: side by side -/
theorem gs_up {f g : Nat → Int32} {k j : Nat} {x y : Int32} (h : f j = g j) (e : x = y) : upd f k x j = upd g k y j := by
  unfold upd
  rw [h, e]
def gs_L (n : Nat) (o t r : gh_B) : Prop := o 10 0 = nI n ∧ gs_C o t ∧ gs_A o t ∧ gs_G n o t r ∧ gs_B n o t
theorem gs_r1 {n : Nat} {o t r : gh_B} {k : Nat} {u : Int32} (hL : gs_L n o t r) (hk : k < n) (hu : 0 ≤ u) : gs_L n (gh_r1 o k u) (gm_c1 r t k u) r := by
  obtain ⟨h0, hC, hA, hG, hB⟩ := hL
  have e1 : gh_ds (gh_tn (gh_st o 12 (fun _ => o 12 0 + 1)) k) u = gm_of r t k u := (hG k hk).off hu
  have e2 : gm_of r (gh_st t 1 (fun _ => t 1 0 + 1)) k u = gm_of r t k u := rfl
  unfold gh_r1 gm_c1
  rw [e1, e2]
  by_cases c1 : 1 < gm_of r t k u
  · rw [if_pos c1, if_pos c1]
    exact ⟨h0, ⟨hC.1, congrArg (· + 1) hC.2.1, hC.2.2.1.trans (Int32.add_zero _).symm, hC.2.2.2⟩, hA, hG, hB⟩
  · rw [if_neg c1, if_neg c1]
    exact ⟨h0, ⟨hC.1, congrArg (· + 1) hC.2.1, congrArg (· + 1) hC.2.2.1, hC.2.2.2⟩, hA, hG, hB⟩
theorem gs_r1_1 (o : gh_B) (k : Nat) (u : Int32) : gh_r1 o k u 1 = o 1 := by unfold gh_r1; split <;> rfl
theorem gs_r1_8 (o : gh_B) (k : Nat) (u : Int32) : gh_r1 o k u 8 = o 8 := by unfold gh_r1; split <;> rfl
theorem gs_c2 {n : Nat} {o t r : gh_B} {k : Nat} {f : Int32} (hn : n ≤ 16) (hL : gs_L n o t r) (hk : k < n) (ha : gh_ha o (o 1 k) f = 1) : gs_L n (gh_r3 (gh_r2 o k f) k f) (gm_c2 r t k f) r := by
  obtain ⟨h0, hC, hA, hG, hB⟩ := hL
  have e2 : gh_r2 o k f = gh_st o 8 (upd (o 8) (o 1 k).toNatClampNeg (o 8 (o 1 k).toNatClampNeg - f)) := by
    unfold gh_r2
    rw [if_neg (by rw [ha]; decide)]
  rw [e2]
  obtain ⟨w, hw, ew⟩ := (hG k hk).2.1
  have ew1 : (r 5 k).toNatClampNeg = w := by rw [ew]; exact nI_clamp (by omega)
  have ew2 : (o 1 k).toNatClampNeg = w := by rw [(hG k hk).1.1]; exact ew1
  refine ⟨h0, hC, fun j hj => ⟨?_, (hA j hj).2⟩, fun j hj => ?_, fun j hj => ?_⟩
  · show upd (o 8) (o 1 k).toNatClampNeg (o 8 (o 1 k).toNatClampNeg - f) j = upd (t 4) (r 5 k).toNatClampNeg (t 4 (r 5 k).toNatClampNeg - f) j
    rw [ew1, ew2]
    exact gs_up (hA j hj).1 (by rw [(hA w hw).1])
  · have hj1 := hG j hj
    have hk1 := hG k hk
    exact ⟨⟨hj1.1.1, hj1.1.2.1, gs_up hj1.1.2.2.1 (congrArg (fun x => gh_m0 (x - f)) hk1.1.2.2.1), hj1.1.2.2.2.1, gs_up hj1.1.2.2.2.2.1 rfl, gs_up hj1.1.2.2.2.2.2 (congrArg (· + 1) hk1.1.2.2.2.2.2)⟩, hj1.2⟩
  · have hb : gm_bz (gm_c2 r t k f) j = if j = k then 1 else gm_bz t j := gs_bz (by omega) (by omega) ((hB j hj).imp (fun q => q.2) (fun q => q.2))
    rw [hb]
    show (upd (o 7) k 1 j = 0 ∧ _) ∨ (upd (o 7) k 1 j = 1 ∧ _)
    unfold upd
    by_cases e : j = k
    · rw [if_pos e, if_pos e]; exact Or.inr ⟨rfl, rfl⟩
    · rw [if_neg e, if_neg e]; exact hB j hj
theorem gs_crack {n : Nat} {P Q r : gh_B} (k : Nat) (hL : gs_L n P Q r) : gs_L n (gh_st (gh_st (gh_st P 4 (upd (P 4) k 1)) 3 (upd (P 3) k 0)) 5 (upd (P 5) k 0)) (gh_st (gh_st (gh_st Q 7 (upd (Q 7) k 1)) 6 (upd (Q 6) k 0)) 8 (upd (Q 8) k 0)) r := by
  obtain ⟨h0, hC, hA, hG, hB⟩ := hL
  refine ⟨h0, hC, hA, fun j hj => ?_, hB⟩
  have hj1 := hG j hj
  have g3 : upd (P 3) k 0 j = upd (Q 6) k 0 j := gs_up hj1.1.2.2.1 rfl
  have g4 : upd (P 4) k 1 j = upd (Q 7) k 1 j := gs_up hj1.1.2.2.2.1 rfl
  have g5 : upd (P 5) k 0 j = upd (Q 8) k 0 j := gs_up hj1.1.2.2.2.2.1 rfl
  refine ⟨⟨hj1.1.1, hj1.1.2.1, g3, g4, g5, hj1.1.2.2.2.2.2⟩, hj1.2.1, hj1.2.2.1, ?_⟩
  show upd (Q 7) k 1 j = 0 ∨ upd (Q 7) k 1 j = 1
  unfold upd
  by_cases e : j = k
  · rw [if_pos e]; exact Or.inr rfl
  · rw [if_neg e]; exact hj1.2.2.2
theorem gs_hit {n : Nat} {o t r : gh_B} {k : Nat} {u f : Int32} (hn : n ≤ 16) (hL : gs_L n o t r) (hk : k < n) (hu : 0 ≤ u) (ha : gh_ha o (o 1 k) f = 1) : gs_L n (gh_rub o k u f) (gm_hit r t k u f) r := by
  have h1 := gs_r1 hL hk hu
  have ha1 : gh_ha (gh_r1 o k u) (gh_r1 o k u 1 k) f = 1 := by
    rw [gs_r1_1]
    unfold gh_ha
    rw [gs_r1_8]
    exact ha
  have h2 := gs_c2 hn h1 hk ha1
  unfold gh_rub gm_hit
  generalize gh_r2 (gh_r1 o k u) k f = X at h2 ⊢
  generalize gm_c1 r t k u = Y at h2 ⊢
  have e2 : X 2 k = r 6 k := (h2.2.2.2.1 k hk).1.2.1
  unfold gh_r4 gm_c3
  rw [e2]
  by_cases c1 : f ≤ r 6 k + 3
  · rw [if_pos c1, if_neg (by rw [gs_le] at c1; rw [gs_lt]; omega)]
    exact h2
  · rw [if_neg c1, if_pos (gs_nlt.mp c1)]
    exact gs_crack k h2
theorem gs_rg {x : Int32} (h : x = -1) (y : Int32) : gh_rg x y = 0 := by
  rw [h, gh_rg, if_pos (by decide)]
theorem gs_nt {n : Nat} {o t r z : gh_B} {i : Nat} (hn : n ≤ 16) (hL : gs_L n o t r) (h1 : z 1 i = r 3 (3 * i + 1)) (h2 : z 2 i = r 3 (3 * i + 2)) (hu : 0 ≤ z 1 i) : gs_L n (gh_nt z o n i) (gm_cm r t n (r 3 (3 * i + 1)) (r 3 (3 * i + 2))) r := by
  obtain ⟨h0, hC, hA, hG, hB⟩ := id hL
  rw [← h1, ← h2]
  obtain ⟨e1, e2⟩ := gs_pf (f := z 2 i) hn hA hG hB hu n (Nat.le_refl n)
  unfold gh_nt gm_cm
  rw [e1]
  rcases e2 with ⟨c1, -⟩ | ⟨k, c1, c2, -, -, c5⟩
  · rw [if_pos (gs_rg c1 _), if_pos c1]
    exact ⟨h0, ⟨hC.1, hC.2.1, hC.2.2.1, congrArg (· + 1) hC.2.2.2⟩, hA, hG, hB⟩
  · have en : ¬ nI k = -1 := by
      intro q
      have := nI_pos (n := k) (by omega)
      rw [q] at this
      exact this (by decide)
    rw [c2, gh_rg_1 h0 (by omega) c1, if_neg (by decide), if_neg en, nI_clamp (by omega)]
    exact gs_hit hn hL c1 hu c5
theorem gs_c3_0 (r t : gh_B) (k : Nat) (f : Int32) : gm_c3 r t k f 0 = t 0 := by unfold gm_c3; split <;> rfl
theorem gs_cm_0 (r t : gh_B) (n : Nat) (u f : Int32) : gm_cm r t n u f 0 = t 0 := by
  unfold gm_cm
  split
  · rfl
  · unfold gm_hit; rw [gs_c3_0]; rfl
theorem gs_ns_0 (r t : gh_B) (n : Nat) : ∀ i, gm_ns r t n i 0 = t 0
  | 0 => rfl
  | i + 1 => by
    rw [gm_ns]; split
    · rw [gs_cm_0]; exact gs_ns_0 r t n i
    · exact gs_ns_0 r t n i
theorem gs_at {nn : Nat} {z r : gh_B} (hS : gs_S nn z r) (x : Int32) : gh_at z x = x - x / r 1 0 * r 1 0 := by
  obtain ⟨-, -, -, e, ⟨L, l1, l2, l3⟩, -⟩ := hS
  unfold gh_at
  rw [e, if_neg (by rw [l3]; exact nI_nle (by omega) (by omega))]
theorem gs_ns {n nn : Nat} {o t r z : gh_B} (hn : n ≤ 16) (hS : gs_S nn z r) (hL : gs_L n o t r) : ∀ i : Nat, i ≤ nn → gs_L n (gh_ns z o n (gh_at z (o 11 0)) i) (gm_ns r t n i) r := by
  intro i
  induction i with
  | zero => intro _; exact hL
  | succ i ih =>
    intro hi
    have h1 := ih (by omega)
    have h2 := hS.2.2.2.2.2 i (by omega)
    rw [gh_ns, gm_ns, gs_ns_0, gs_at hS, hL.2.1.1, h2.1] at *
    by_cases c1 : r 3 (3 * i) = t 0 0 - t 0 0 / r 1 0 * r 1 0
    · rw [if_pos c1, if_pos c1]
      exact gs_nt hn h1 h2.2.1 h2.2.2.1 h2.2.2.2
    · rw [if_neg c1, if_neg c1]
      exact h1
theorem gs_f1 {n : Nat} {o t r : gh_B} {i : Nat} (hL : gs_L n o t r) (hi : i < n) : gs_L n (gh_f1 o i) (gm_f1 t i) r := by
  obtain ⟨h0, hC, hA, hG, hB⟩ := id hL
  unfold gh_f1 gm_f1
  rcases hB i hi with ⟨b1, b2⟩ | ⟨b1, b2⟩
  · rw [if_pos b1, if_pos b2]
    refine ⟨h0, hC, hA, fun j hj => ?_, hB⟩
    have hj1 := hG j hj
    exact ⟨⟨hj1.1.1, hj1.1.2.1, hj1.1.2.2.1, hj1.1.2.2.2.1, gs_up hj1.1.2.2.2.2.1 (by rw [(hG i hi).1.2.2.2.2.1]), hj1.1.2.2.2.2.2⟩, hj1.2⟩
  · rw [if_neg (by rw [b1]; decide), if_neg (by rw [b2]; decide)]
    exact hL
theorem gs_f2 {n : Nat} {o t r : gh_B} {i : Nat} (hL : gs_L n o t r) (hi : i < n) : gs_L n (gh_f2 o (gh_dr (t 0 0)) i) (gm_f2 t i) r := by
  obtain ⟨h0, hC, hA, hG, hB⟩ := id hL
  unfold gh_f2 gm_f2 gh_dr
  by_cases c1 : t 0 0 - t 0 0 / 8 * 8 = 0
  · rw [if_pos c1, if_pos c1, if_neg (by decide)]
    refine ⟨h0, hC, hA, fun j hj => ?_, hB⟩
    have hj1 := hG j hj
    exact ⟨⟨hj1.1.1, hj1.1.2.1, gs_up hj1.1.2.2.1 (by rw [(hG i hi).1.2.2.1]), hj1.1.2.2.2⟩, hj1.2⟩
  · rw [if_neg c1, if_neg c1, if_pos rfl]
    exact hL
theorem gs_f1_0 (t : gh_B) (i : Nat) : gm_f1 t i 0 = t 0 := by unfold gm_f1; split <;> rfl
theorem gs_f2_0 (t : gh_B) (i : Nat) : gm_f2 t i 0 = t 0 := by unfold gm_f2; split <;> rfl
theorem gs_fd_0 (t : gh_B) : ∀ i, gm_fd t i 0 = t 0
  | 0 => rfl
  | i + 1 => by rw [gm_fd, gs_f2_0, gs_f1_0]; exact gs_fd_0 t i
theorem gs_fd {n : Nat} {o t r : gh_B} (hL : gs_L n o t r) : ∀ i : Nat, i ≤ n → gs_L n (gh_fd (gh_dr (t 0 0)) o i) (gm_fd t i) r := by
  intro i
  induction i with
  | zero => intro _; exact hL
  | succ i ih =>
    intro hi
    have h1 := gs_f1 (ih (by omega)) (i := i) (by omega)
    have h2 := gs_f2 h1 (i := i) (by omega)
    rw [gs_f1_0, gs_fd_0] at h2
    exact h2
theorem gs_fb {n : Nat} {o t r : gh_B} (h : o 10 0 = nI n ∧ gs_C o t ∧ gs_A o t ∧ gs_G n o t r) : ∀ i : Nat, i ≤ 4 → gh_fb o i 10 0 = nI n ∧ gs_C (gh_fb o i) (gm_fb t i) ∧ gs_A (gh_fb o i) (gm_fb t i) ∧ gs_G n (gh_fb o i) (gm_fb t i) r := by
  intro i
  induction i with
  | zero => intro _; exact h
  | succ i ih =>
    intro hi
    obtain ⟨h0, hC, hA, hG⟩ := ih (by omega)
    refine ⟨h0, hC, fun j hj => ⟨gs_up (hA j hj).1 ?_, (hA j hj).2⟩, hG⟩
    rw [(hA i (by omega)).1, (hA i (by omega)).2]
theorem gs_nb_n (o : gh_B) {j : Nat} (hj : j ≠ 7) : ∀ i, gh_nb o i j = o j
  | 0 => rfl
  | i + 1 => (gh_sn _ _ hj).trans (gs_nb_n o hj i)
theorem gs_nb_7 (o : gh_B) : ∀ i k : Nat, k < i → gh_nb o i 7 k = 0
  | 0, k, h => absurd h (Nat.not_lt_zero k)
  | i + 1, k, h => by
    show upd (gh_nb o i 7) i 0 k = 0
    unfold upd
    by_cases e : k = i
    · rw [if_pos e]
    · rw [if_neg e]; exact gs_nb_7 o i k (by omega)
theorem gs_nb {n : Nat} {o t r : gh_B} (hn : n ≤ 16) (h : o 10 0 = nI n ∧ gs_C o t ∧ gs_A o t ∧ gs_G n o t r) : gs_L n (gh_nb o n) (gh_st t 10 (fun _ => 0)) r := by
  obtain ⟨h0, hC, hA, hG⟩ := h
  have e := fun (j : Nat) (hj : j ≠ 7) => gs_nb_n o hj n
  refine ⟨?_, ?_, fun j hj => ?_, fun j hj => ?_, fun j hj => Or.inl ⟨gs_nb_7 o n j hj, ?_⟩⟩
  · rw [e 10 (by decide)]; exact h0
  · unfold gs_C
    rw [e 11 (by decide), e 12 (by decide), e 13 (by decide), e 14 (by decide)]
    exact hC
  · rw [e 8 (by decide), e 9 (by decide)]
    exact hA j hj
  · unfold gs_g
    rw [e 1 (by decide), e 2 (by decide), e 3 (by decide), e 4 (by decide), e 5 (by decide), e 6 (by decide)]
    exact hG j hj
  · have : ∀ k : Fin 16, ((0 : Int32) >>> (nI k.1 &&& 31)) &&& 1 = 0 := by decide +kernel
    exact this ⟨j, by omega⟩
theorem gs_pass {n nn : Nat} {o t r z : gh_B} (hR : gs_R n o t r) (hS : gs_S nn z r) : gs_R n (gh_bt z o n nn) (gm_pass r t n nn) r := by
  obtain ⟨⟨hn, h0, h4⟩, hC, hA, hG⟩ := hR
  have h1 := gs_nb hn (gs_fb ⟨h0, hC, hA, hG⟩ 4 (Nat.le_refl 4))
  have h2 := gs_ns hn hS h1 nn (Nat.le_refl nn)
  have h3 := gs_fd h2 n (Nat.le_refl n)
  rw [← h2.2.1.1] at h3
  obtain ⟨k0, kC, kA, kG, -⟩ := h3
  exact ⟨⟨hn, k0, h4⟩, ⟨congrArg (· + 1) kC.1, kC.2⟩, kA, kG⟩
theorem gs_go {n nn : Nat} {o t r z : gh_B} (hR : gs_R n o t r) (hS : gs_S nn z r) : ∀ i : Nat, gs_R n (gh_go z o n nn i) (gm_go r t n nn i) r
  | 0 => hR
  | i + 1 => gs_pass (gs_go hR hS i) hS
