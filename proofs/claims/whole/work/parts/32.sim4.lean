/-! places without a glass stay empty; the steps that change a state -/
def gs_X (n : Nat) (o o' : gh_B) : Prop := ∀ j : Nat, n ≤ j → o' 4 j = o 4 j ∧ o' 5 j = o 5 j ∧ o' 6 j = o 6 j
def gs_Y (n : Nat) (t t' : gh_B) : Prop := ∀ j : Nat, n ≤ j → t' 7 j = t 7 j ∧ t' 8 j = t 8 j ∧ t' 9 j = t 9 j
theorem gs_X.trans {n : Nat} {a b c : gh_B} (h : gs_X n a b) (g : gs_X n b c) : gs_X n a c := fun j hj => ⟨(g j hj).1.trans (h j hj).1, (g j hj).2.1.trans (h j hj).2.1, (g j hj).2.2.trans (h j hj).2.2⟩
theorem gs_Y.trans {n : Nat} {a b c : gh_B} (h : gs_Y n a b) (g : gs_Y n b c) : gs_Y n a c := fun j hj => ⟨(g j hj).1.trans (h j hj).1, (g j hj).2.1.trans (h j hj).2.1, (g j hj).2.2.trans (h j hj).2.2⟩
theorem gs_X.rf (n : Nat) (a : gh_B) : gs_X n a a := fun _ _ => ⟨rfl, rfl, rfl⟩
theorem gs_Y.rf (n : Nat) (a : gh_B) : gs_Y n a a := fun _ _ => ⟨rfl, rfl, rfl⟩
theorem gs_X_r1 (n : Nat) (o : gh_B) (k : Nat) (u : Int32) : gs_X n o (gh_r1 o k u) := fun j _ => by unfold gh_r1; split <;> exact ⟨rfl, rfl, rfl⟩
theorem gs_X_r2 (n : Nat) (o : gh_B) (k : Nat) (f : Int32) : gs_X n o (gh_r2 o k f) := fun j _ => by unfold gh_r2; split <;> exact ⟨rfl, rfl, rfl⟩
theorem gs_X_r4 {n : Nat} (o : gh_B) {k : Nat} (hk : k < n) (f : Int32) : gs_X n o (gh_r4 o k f) := fun j hj => by
  have e : j ≠ k := by omega
  unfold gh_r4
  split
  · exact ⟨rfl, pk_un e, pk_un e⟩
  · exact ⟨pk_un e, (pk_un e).trans (pk_un e), pk_un e⟩
theorem gs_X_nt {n : Nat} {z o : gh_B} (i : Nat) (hn : n ≤ 16) (h0 : o 10 0 = nI n) : gs_X n o (gh_nt z o n i) := by
  unfold gh_nt
  split
  · exact fun _ _ => ⟨rfl, rfl, rfl⟩
  · rename_i h
    obtain ⟨k, hk, ek⟩ := gh_rg_k h h0 (by omega)
    rw [ek, nI_clamp (by omega)]
    unfold gh_rub
    exact (gs_X_r1 n o k _).trans ((gs_X_r2 n _ k _).trans (gs_X_r4 _ hk _))
theorem gs_X_ns {n : Nat} {z o : gh_B} (p : Int32) (hn : n ≤ 16) (h0 : o 10 0 = nI n) : ∀ i, gs_X n o (gh_ns z o n p i)
  | 0 => gs_X.rf n o
  | i + 1 => by
    rw [gh_ns]
    split
    · exact (gs_X_ns p hn h0 i).trans (gs_X_nt i hn (by rw [gh_ns_10]; exact h0))
    · exact gs_X_ns p hn h0 i
theorem gs_X_fd {n : Nat} (d : Int32) (o : gh_B) : ∀ i, i ≤ n → gs_X n o (gh_fd d o i)
  | 0, _ => gs_X.rf n o
  | i + 1, h => by
    refine (gs_X_fd d o i (by omega)).trans ?_
    rw [gh_fd]
    generalize gh_fd d o i = q
    intro j hj
    have e : j ≠ i := by omega
    unfold gh_f2 gh_f1
    split <;> split <;> first | exact ⟨rfl, pk_un e, rfl⟩ | exact ⟨rfl, rfl, rfl⟩
theorem gs_X_fb {n : Nat} (o : gh_B) : ∀ i, gs_X n o (gh_fb o i)
  | 0 => gs_X.rf n o
  | i + 1 => (gs_X_fb o i).trans (fun _ _ => ⟨rfl, rfl, rfl⟩)
theorem gs_X_nb {n : Nat} (o : gh_B) : ∀ i, gs_X n o (gh_nb o i)
  | 0 => gs_X.rf n o
  | i + 1 => (gs_X_nb o i).trans (fun _ _ => ⟨rfl, rfl, rfl⟩)
theorem gs_X_bt {n nn : Nat} {z o : gh_B} (hn : n ≤ 16) (h0 : o 10 0 = nI n) : gs_X n o (gh_bt z o n nn) := by
  unfold gh_bt gh_pn
  refine gs_X.trans ?_ (fun _ _ => ⟨rfl, rfl, rfl⟩)
  refine gs_X.trans ?_ (gs_X_fd _ _ n (Nat.le_refl n))
  refine gs_X.trans ?_ (gs_X_ns _ hn (by rw [gh_nb_10, gh_fb_10]; exact h0) nn)
  exact (gs_X_fb o 4).trans (gs_X_nb _ n)
theorem gs_X_go {n nn : Nat} {z o : gh_B} (hn : n ≤ 16) (h0 : o 10 0 = nI n) : ∀ i, gs_X n o (gh_go z o n nn i)
  | 0 => gs_X.rf n o
  | i + 1 => (gs_X_go hn h0 i).trans (gs_X_bt hn (by rw [gh_go_10]; exact h0))
theorem gs_bsk (r t : gh_B) (u f : Int32) : ∀ i, gm_bo (gm_bs r t u f i) i
  | 0 => Or.inl rfl
  | i + 1 => by
    have h := gm_bo_s (gs_bsk r t u f i)
    rw [gm_bs]
    split
    · exact h
    · split
      · exact h
      · split
        · exact h
        · split
          · split
            · exact gm_bo_n i
            · split
              · exact h
              · exact gm_bo_n i
          · exact h
theorem gs_Y_c3 {n : Nat} (r t : gh_B) {k : Nat} (hk : k < n) (f : Int32) : gs_Y n t (gm_c3 r t k f) := fun j hj => by
  have e : j ≠ k := by omega
  unfold gm_c3
  split
  · exact ⟨pk_un e, (pk_un e).trans (pk_un e), pk_un e⟩
  · exact ⟨rfl, pk_un e, pk_un e⟩
theorem gs_Y_cm {n : Nat} (r t : gh_B) (u f : Int32) (hn : n ≤ 16) : gs_Y n t (gm_cm r t n u f) := by
  unfold gm_cm
  split
  · exact fun _ _ => ⟨rfl, rfl, rfl⟩
  · rename_i h
    obtain ⟨k, hk, ek⟩ := gm_bo_k (gs_bsk r t u f n) h
    rw [ek, nI_clamp (by omega)]
    unfold gm_hit
    exact gs_Y.trans (b := gm_c1 r t k u) (fun _ _ => ⟨rfl, rfl, rfl⟩) (gs_Y_c3 r _ hk f)
theorem gs_Y_ns {n : Nat} (r t : gh_B) (hn : n ≤ 16) : ∀ i, gs_Y n t (gm_ns r t n i)
  | 0 => gs_Y.rf n t
  | i + 1 => by
    rw [gm_ns]
    split
    · exact (gs_Y_ns r t hn i).trans (gs_Y_cm r _ _ _ hn)
    · exact gs_Y_ns r t hn i
theorem gs_Y_fd {n : Nat} (t : gh_B) : ∀ i, i ≤ n → gs_Y n t (gm_fd t i)
  | 0, _ => gs_Y.rf n t
  | i + 1, h => by
    refine (gs_Y_fd t i (by omega)).trans ?_
    rw [gm_fd]
    generalize gm_fd t i = q
    intro j hj
    have e : j ≠ i := by omega
    unfold gm_f2 gm_f1
    split <;> split <;> first | exact ⟨rfl, pk_un e, rfl⟩ | exact ⟨rfl, rfl, rfl⟩
theorem gs_Y_fb {n : Nat} (t : gh_B) : ∀ i, gs_Y n t (gm_fb t i)
  | 0 => gs_Y.rf n t
  | i + 1 => (gs_Y_fb t i).trans (fun _ _ => ⟨rfl, rfl, rfl⟩)
theorem gs_Y_be (n : Nat) (t : gh_B) : gs_Y n t (gm_be t) := fun _ _ => ⟨rfl, rfl, rfl⟩
theorem gs_Y_10 (n : Nat) (t : gh_B) (f : Nat → Int32) : gs_Y n t (gh_st t 10 f) := fun _ _ => ⟨rfl, rfl, rfl⟩
theorem gs_X_be (n : Nat) (t : gh_B) : gs_X n t (gh_be t) := fun _ _ => ⟨rfl, rfl, rfl⟩
theorem gs_Y_pass {n nn : Nat} (r t : gh_B) (hn : n ≤ 16) : gs_Y n t (gm_pass r t n nn) := by
  unfold gm_pass
  refine gs_Y.trans ?_ (gs_Y_be n _)
  refine gs_Y.trans ?_ (gs_Y_fd _ n (Nat.le_refl n))
  refine gs_Y.trans ?_ (gs_Y_ns r _ hn nn)
  exact (gs_Y_fb t 4).trans (gs_Y_10 n _ _)
theorem gs_Y_go {n nn : Nat} (r t : gh_B) (hn : n ≤ 16) : ∀ i, gs_Y n t (gm_go r t n nn i)
  | 0 => gs_Y.rf n t
  | i + 1 => (gs_Y_go r t hn i).trans (gs_Y_pass r _ hn)
theorem gs_Z.go {n nn : Nat} {o t r z : gh_B} (h : gs_Z n o t) (hn : n ≤ 16) (h0 : o 10 0 = nI n) (b : Nat) : gs_Z n (gh_go z o n nn b) (gm_go r t n nn b) := fun k h1 h2 => by
  obtain ⟨a1, a2, a3⟩ := gs_X_go (z := z) (nn := nn) hn h0 b k h1
  obtain ⟨b1, b2, b3⟩ := gs_Y_go (nn := nn) r t hn b k h1
  rw [a1, a2, a3, b1, b2, b3]
  exact h k h1 h2
/-- all of it -/
def gs_W (n nn : Nat) (o z t r : gh_B) : Prop := gs_R n o t r ∧ gs_S nn z r ∧ gs_Z n o t
theorem gs_W.z {n nn : Nat} {o z t r : gh_B} (h : gs_W n nn o z t r) : gs_W n nn o z t (gm_z r) := h
theorem gs_W.no {n nn : Nat} {o z t r : gh_B} (h : gs_W n nn o z t r) (k : Int32) : gs_W n nn o z t (gm_no r k) := h
theorem gs_iw {x lo hi : Int32} (h : ¬ gh_iw x lo hi = 0) : lo.toInt ≤ x.toInt ∧ x.toInt ≤ hi.toInt := by
  unfold gh_iw at h
  by_cases c1 : x < lo
  · rw [if_pos c1] at h; exact absurd rfl h
  · rw [if_neg c1] at h
    by_cases c2 : hi < x
    · rw [if_pos c2] at h; exact absurd rfl h
    · rw [gs_lt] at c1 c2
      exact ⟨by omega, by omega⟩
theorem gs_nat {x : Int32} {a b : Nat} (h1 : (a : Int) ≤ x.toInt) (h2 : x.toInt ≤ (b : Int)) (hb : b < 2 ^ 31) : ∃ m : Nat, a ≤ m ∧ m ≤ b ∧ x = nI m := by
  refine ⟨x.toInt.toNat, by omega, by omega, Int32.toInt_inj.mp ?_⟩
  rw [nI_toInt (by omega)]
  omega
theorem gs_rgi {x : Int32} {n : Nat} (hn : n ≤ 32) : gh_iw x 0 (nI n - 1) = gh_rg x (nI n) := by
  have e0 : (nI n).toInt = (n : Int) := nI_toInt (by omega)
  have e : (nI n - 1).toInt = (n : Int) - 1 := by
    rw [gs_sub (nI_pos' (by omega)) (by decide), e0, gs_1]
  unfold gh_iw gh_rg
  by_cases c1 : x < 0
  · rw [if_pos c1, if_pos c1]
  · rw [if_neg c1, if_neg c1]
    by_cases c2 : nI n ≤ x
    · rw [if_pos c2, if_pos (by rw [gs_le] at c2; rw [gs_lt]; omega)]
    · rw [if_neg c2, if_neg (by rw [gs_le] at c2; rw [gs_lt]; omega)]
theorem gs_k1 {α : Type} {a : Int32} {e ok : α} (h : a = 0) : gm_k1 e ok a = e := if_pos h
theorem gs_k1' {α : Type} {a : Int32} {e ok : α} (h : ¬ a = 0) : gm_k1 e ok a = ok := if_neg h
theorem gs_setLength {n nn : Nat} {o z t r : gh_B} (hW : gs_W n nn o z t r) (y : Int32) : gm_k1 (gm_no r 1) (gh_st (gm_z r) 1 (fun _ => y)) (gh_iw y 1 64) 0 0 = gc_k1 (gh_iw y 1 64) ∧ (gc_k1 (gh_iw y 1 64) = 0 → gm_k1 0 (r 1 0) (gh_iw y 1 64) = z 4 0) ∧ gs_W n nn o (gx_if (gc_k1 (gh_iw y 1 64)) (gh_st z 4 (fun _ => y)) z) t (gm_k1 (gm_no r 1) (gh_st (gm_z r) 1 (fun _ => y)) (gh_iw y 1 64)) := by
  unfold gc_k1
  by_cases c1 : gh_iw y 1 64 = 0
  · rw [gs_k1 c1, if_pos c1, gx_if_n (i := 1) rfl (by decide)]
    exact ⟨rfl, fun q => absurd q (by decide), hW.no 1⟩
  · rw [gs_k1' c1, gs_k1' c1, if_neg c1, gx_if_p rfl]
    obtain ⟨hR, ⟨s1, s2, s3, s4, s5, s6⟩, hZ⟩ := hW
    refine ⟨rfl, fun _ => s4.symm, hR, ⟨s1, s2, s3, rfl, ?_, s6⟩, hZ⟩
    obtain ⟨q1, q2⟩ := gs_iw c1
    exact gs_nat (a := 1) (b := 64) q1 q2 (by decide)
theorem gs_play {n nn : Nat} {o z t r : gh_B} (hW : gs_W n nn o z t r) (y : Int32) : gm_k1 (gm_no r 1) (gm_z r) (gh_iw y 1 200) 0 0 = gc_k1 (gh_iw y 1 200) ∧ (gc_k1 (gh_iw y 1 200) = 0 → gm_k1 0 (gm_go (gm_z r) t n nn y.toNatClampNeg 1 0 - t 1 0) (gh_iw y 1 200) = gh_go z o n nn y.toNatClampNeg 12 0 - o 12 0) ∧ gs_W n nn (gx_if (gc_k1 (gh_iw y 1 200)) (gh_go z o n nn y.toNatClampNeg) o) z (gm_k1 t (gm_go (gm_z r) t n nn y.toNatClampNeg) (gh_iw y 1 200)) (gm_k1 (gm_no r 1) (gm_z r) (gh_iw y 1 200)) := by
  unfold gc_k1
  by_cases c1 : gh_iw y 1 200 = 0
  · rw [gs_k1 c1, gs_k1 c1, gs_k1 c1, if_pos c1, gx_if_n (i := 1) rfl (by decide)]
    exact ⟨rfl, fun q => absurd q (by decide), hW.no 1⟩
  · rw [gs_k1' c1, gs_k1' c1, gs_k1' c1, if_neg c1, gx_if_p rfl]
    have hz : gs_W n nn o z t (gm_z r) := hW.z
    have hg := gs_go hz.1 hz.2.1 y.toNatClampNeg
    exact ⟨rfl, fun _ => by rw [hg.2.1.2.1, hz.1.2.1.2.1], hg, hz.2.1, hz.2.2.go hz.1.1.1 hz.1.1.2.1 _⟩
