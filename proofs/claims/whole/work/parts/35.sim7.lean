/-! advice, wants; the score; the first state -/
theorem gs_cb {n : Nat} {o t r : gh_B} (hG : gs_G n o t r) {k : Nat} (hk : k < n) (u : Int32) : gh_cb o k u = if t 7 k = 1 then 0 else if gm_nd r k u = -1 then 0 else 1 := by
  unfold gh_cb
  rw [gs_fw hG hk, (hG k hk).1.2.2.2.1]
  rcases (hG k hk).2.2.2 with h | h
  · rw [if_pos h, if_neg (c := t 7 k = 1) (by rw [h]; decide)]
  · rw [if_neg (c := t 7 k = 0) (by rw [h]; decide), if_pos h]
theorem gs_av {n : Nat} {o t r : gh_B} (hG : gs_G n o t r) (u : Int32) (ff : Nat → Int32) (f0 : Int32) : ∀ i : Nat, i ≤ n → gc_av (fun i => gh_cb o i u) ff f0 i = gm_av (t 7) ff (fun i => gm_nd r i u) f0 i := by
  intro i
  induction i with
  | zero => intro _; rfl
  | succ i ih =>
    intro hi
    rw [gc_av, gm_av, ih (by omega), gs_cb hG (by omega)]
    generalize gm_av (t 7) ff (fun i => gm_nd r i u) f0 i = b
    by_cases c1 : t 7 i = 1
    · rw [if_pos c1, if_pos c1, if_pos rfl]
    · rw [if_neg c1, if_neg c1]
      by_cases c2 : gm_nd r i u = -1
      · rw [if_pos c2, if_pos c2, if_pos rfl]
      · rw [if_neg c2, if_neg c2, if_neg (by decide)]
        by_cases c3 : ff i ≤ b.1
        · rw [if_pos c3, if_neg (by rw [gs_le] at c3; rw [gs_lt]; omega)]
        · rw [if_neg c3, if_pos (gs_nlt.mp c3)]
theorem gs_tu {n : Nat} {o t r : gh_B} (hR : gs_R n o t r) (q p : gh_B) {i : Nat} (hi : i < n) {y : Int32} (hc : ¬ gh_cb o i y = 0) : gs_R n (gh_tu (gh_to o q n) i y) (gh_st (gm_bc t p) 6 (upd (gm_bc t p 6) i (gm_nd r i y))) r := by
  have hR2 := gs_to hR q p
  have e1 : gh_cb (gh_to o q n) i y = gh_cb o i y := by
    rw [gs_cb hR2.2.2.2 hi, gs_cb hR.2.2.2 hi]
    have e7 : gm_bc t p 7 i = t 7 i := gs_cpy (by have := hR.1.1; omega)
    rw [e7]
  unfold gh_tu
  rw [e1, if_neg hc, gs_fw hR2.2.2.2 hi]
  refine ⟨hR2.1, hR2.2.1, hR2.2.2.1, fun k hk => ?_⟩
  have g := hR2.2.2.2 k hk
  exact ⟨⟨g.1.1, g.1.2.1, gs_up g.1.2.2.1 rfl, g.1.2.2.2⟩, g.2⟩
def gs_f0 (o z : gh_B) (n nn : Nat) (b : Nat) : Int32 := gh_go z (gh_to o o n) n nn b 13 0
def gs_ff (o z : gh_B) (n nn : Nat) (b : Nat) (y : Int32) (i : Nat) : Int32 := gh_go z (gh_tu (gh_to o o n) i y) n nn b 13 0
theorem gs_f0c {n nn : Nat} {o z t r : gh_B} (hW : gs_W n nn o z t r) (b : Nat) (q : gh_B) : gh_go z (gh_to o q n) n nn b 13 0 = gs_f0 o z n nn b :=
  ((gs_go (gs_to hW.1 q t) hW.2.1 b).2.1.2.2.1).trans ((gs_go (gs_to hW.1 o t) hW.2.1 b).2.1.2.2.1).symm
theorem gs_f0m {n nn : Nat} {o z t r : gh_B} (hW : gs_W n nn o z t r) (b : Nat) (p : gh_B) : gm_go r (gm_bc t p) n nn b 2 0 = gs_f0 o z n nn b :=
  ((gs_go (gs_to hW.1 o p) hW.2.1 b).2.1.2.2.1).symm
theorem gs_ffc {n nn : Nat} {o z t r : gh_B} (hW : gs_W n nn o z t r) (b : Nat) (y : Int32) (q : gh_B) (i : Nat) (hi : i < n) (hc : ¬ gh_cb o i y = 0) : gh_go z (gh_tu (gh_to o q n) i y) n nn b 13 0 = gs_ff o z n nn b y i :=
  ((gs_go (gs_tu hW.1 q t hi hc) hW.2.1 b).2.1.2.2.1).trans ((gs_go (gs_tu hW.1 o t hi hc) hW.2.1 b).2.1.2.2.1).symm
theorem gs_ffm {n nn : Nat} {o z t r : gh_B} (hW : gs_W n nn o z t r) (b : Nat) (y : Int32) (p : gh_B) (i : Nat) (hi : i < n) (h7 : ¬ t 7 i = 1) (hd : ¬ gm_nd r i y = -1) : gm_go r (gh_st (gm_bc t p) 6 (upd (gm_bc t p 6) i (gm_nd r i y))) n nn b 2 0 = gs_ff o z n nn b y i :=
  ((gs_go (gs_tu hW.1 o p hi (by rw [gs_cb hW.1.2.2.2 hi, if_neg h7, if_neg hd]; decide)) hW.2.1 b).2.1.2.2.1).symm
theorem gs_advise {n nn : Nat} {o z t r : gh_B} (hW : gs_W n nn o z t r) (y v : Int32) (ff : Nat → Int32) (f0 : Int32) : gc_k2 (gh_iw y 0 120) (gh_iw v 1 80) = 0 → gm_k2 0 (gm_av (t 7) ff (fun i => gm_nd (gh_st r 0 (fun _ => 0)) i y) f0 n).2 (gh_iw y 0 120) (gh_iw v 1 80) = (gc_av (fun i => gh_cb o i y) ff f0 n).2 := by
  intro e
  rw [gs_t2 0 0 0, gs_kp e]
  exact congrArg (·.2) (gs_av hW.z.1.2.2.2 y ff f0 n (Nat.le_refl n)).symm
/-! wants -/
theorem gs_sp {n : Nat} {o t r : gh_B} (hR : gs_R n o t r) (y v : Int32) : gs_R n (gh_st o 9 (upd (o 9) y.toNatClampNeg v)) (gh_st t 5 (upd (t 5) y.toNatClampNeg v)) r :=
  ⟨hR.1, hR.2.1, fun j hj => ⟨(hR.2.2.1 j hj).1, gs_up (hR.2.2.1 j hj).2 rfl⟩, hR.2.2.2⟩
def gs_F (o z : gh_B) (n nn : Nat) (b : Nat) (y v : Int32) : Int32 := gh_go z (gh_st (gh_to o o n) 9 (upd (gh_to o o n 9) y.toNatClampNeg v)) n nn b 14 0
def gs_Fc (o z : gh_B) (n nn : Nat) (b : Nat) (y v : Int32) : Int32 := if gh_iw y 0 3 = 0 then gh_go z (gh_to o o n) n nn b 14 0 else gs_F o z n nn b y v
theorem gs_Fm {n nn : Nat} {o z t r : gh_B} (hW : gs_W n nn o z t r) (b : Nat) (y : Int32) (p : gh_B) (v : Int32) : gm_go r (gh_st (gm_bc t p) 5 (upd (gm_bc t p 5) y.toNatClampNeg v)) n nn b 3 0 = gs_F o z n nn b y v :=
  ((gs_go (gs_sp (gs_to hW.1 o p) y v) hW.2.1 b).2.1.2.2.2).symm
theorem gs_Fcc {n nn : Nat} {o z t r : gh_B} (hW : gs_W n nn o z t r) (b : Nat) (y : Int32) (q : gh_B) (v : Int32) : gh_go z (gh_sp (gh_to o q n) y v) n nn b 14 0 = gs_Fc o z n nn b y v := by
  unfold gh_sp gs_Fc
  by_cases c1 : gh_iw y 0 3 = 0
  · rw [if_pos c1, if_pos c1]
    exact ((gs_go (gs_to hW.1 q t) hW.2.1 b).2.1.2.2.2).trans ((gs_go (gs_to hW.1 o t) hW.2.1 b).2.1.2.2.2).symm
  · rw [if_neg c1, if_neg c1]
    exact ((gs_go (gs_sp (gs_to hW.1 q t) y v) hW.2.1 b).2.1.2.2.2).trans ((gs_go (gs_sp (gs_to hW.1 o t) y v) hW.2.1 b).2.1.2.2.2).symm
theorem gs_wants {n nn : Nat} {o z : gh_B} (b : Nat) (y v : Int32) : gc_k3 (gh_iw y 0 3) (gh_iw v 1 80) = 0 → gm_k3 0 0 (nI (gm_wl (gs_F o z n nn b y) (gs_F o z n nn b y 9) 9 0)) (gh_iw y 0 3) (gh_iw v 1 80) = nI (gm_wl (gs_Fc o z n nn b y) (gs_Fc o z n nn b y 9) 9 0) := by
  intro e
  rw [gs_t3 0 0 0, gs_kp e]
  have h : gs_Fc o z n nn b y = gs_F o z n nn b y := by
    funext v
    unfold gs_Fc
    rw [if_neg (gs_k3o e).1]
  rw [h]
/-! the score -/
theorem gs_note {n nn : Nat} {o z t r : gh_B} (hW : gs_W n nn o z t r) (y u v : Int32) : gm_knote (gm_no r 1) (gm_no r 2) (gm_nw r nn y u v) nn y u v 0 0 = gc_note nn y u v ∧ (gc_note nn y u v = 0 → gm_knote 0 0 (nI (nn + 1)) nn y u v = nI (nn + 1)) ∧ ∃ nn' : Nat, gs_W n nn' o (gx_if (gc_note nn y u v) (gh_wr z nn y u v) z) t (gm_knote (gm_no r 1) (gm_no r 2) (gm_nw r nn y u v) nn y u v) := by
  have hn := hW.2.1.1
  rw [gs_tn' (gm_no r 1) (gm_no r 2) (gm_no r 3) _ _ _ _ hn, gs_tn' 0 0 0 _ _ _ _ hn]
  have h4 := gs_4note nn y u v
  refine ⟨gs_kr r _ h4 rfl, fun q => gs_kp q, ?_⟩
  by_cases q : gc_note nn y u v = 0
  · rw [gs_kp q, gx_if_p q]
    have c1 : ¬ gh_iw y 0 63 = 0 := fun e => by rw [gc_note, if_pos e] at q; exact absurd q (by decide)
    have c2 : ¬ gh_iw u 0 120 = 0 := fun e => by rw [gc_note, if_neg c1, if_pos e] at q; exact absurd q (by decide)
    have c3 : ¬ gh_iw v 1 9 = 0 := fun e => by rw [gc_note, if_neg c1, if_neg c2, if_pos e] at q; exact absurd q (by decide)
    have c4 : nI nn < 32 := by
      by_cases e : nI nn < 32
      · exact e
      · rw [gc_note, if_neg c1, if_neg c2, if_neg c3, if_neg e] at q; exact absurd q (by decide)
    have hn15 : nn < 32 := gh_lt_n (m := 32) c4 rfl (by omega) (by decide)
    obtain ⟨hR, ⟨s1, s2, s3, s4, s5, s6⟩, hZ⟩ := hW
    refine ⟨nn + 1, hR, ?_, hZ⟩
    rw [gh_wr, if_pos c4]
    refine ⟨by omega, rfl, rfl, s4, s5, fun i hi => ?_⟩
    have eC : ∀ j : Nat, gm_nw r nn y u v 3 j = if 3 * nn ≤ j ∧ j < 3 * nn + 3 then upd (upd (upd (fun _ => 0) 0 y) 1 u) 2 v (0 + (j - 3 * nn)) else r 3 j := fun j => rfl
    show upd (z 0) nn y i = _ ∧ upd (z 1) nn u i = _ ∧ upd (z 2) nn v i = _ ∧ 0 ≤ upd (z 1) nn u i
    rw [eC, eC, eC]
    by_cases e : i = nn
    · subst e
      rw [pk_us, pk_us, pk_us, if_pos (by omega), if_pos (by omega), if_pos (by omega), show 0 + (3 * i - 3 * i) = 0 by omega, show 0 + (3 * i + 1 - 3 * i) = 1 by omega, show 0 + (3 * i + 2 - 3 * i) = 2 by omega]
      refine ⟨rfl, rfl, rfl, ?_⟩
      have := (gs_iw c2).1
      rw [gs_le]
      exact this
    · rw [pk_un e, pk_un e, pk_un e, if_neg (by omega), if_neg (by omega), if_neg (by omega)]
      exact s6 i (by omega)
  · rw [gx_if_n rfl q]
    exact ⟨nn, gs_kw hW h4 q _⟩
theorem gs_sh (z : gh_B) (k : Nat) : ∀ m : Nat, k ≤ m → ∀ j : Nat, (gh_sh z k m 0 j = if k ≤ j ∧ j < m then z 0 (j + 1) else z 0 j) ∧ (gh_sh z k m 1 j = if k ≤ j ∧ j < m then z 1 (j + 1) else z 1 j) ∧ (gh_sh z k m 2 j = if k ≤ j ∧ j < m then z 2 (j + 1) else z 2 j) := by
  intro m
  induction m with
  | zero =>
    intro hk j
    have e : k = 0 := by omega
    subst e
    rw [gh_sh_k, if_neg (by omega), if_neg (by omega), if_neg (by omega)]
    exact ⟨rfl, rfl, rfl⟩
  | succ m ih =>
    intro hk j
    by_cases h : k = m + 1
    · subst h
      rw [gh_sh_k, if_neg (by omega), if_neg (by omega), if_neg (by omega)]
      exact ⟨rfl, rfl, rfl⟩
    · have hkm : k ≤ m := by omega
      rw [gh_sh_s z hkm]
      have i1 := ih hkm j
      have i2 := ih hkm (m + 1)
      show upd (gh_sh z k m 0) m (gh_sh z k m 0 (m + 1)) j = _ ∧ upd (gh_sh z k m 1) m (gh_sh z k m 1 (m + 1)) j = _ ∧ upd (gh_sh z k m 2) m (gh_sh z k m 2 (m + 1)) j = _
      by_cases e : j = m
      · subst e
        have a1 : ¬ (k ≤ j + 1 ∧ j + 1 < j) := by omega
        have a2 : k ≤ j ∧ j < j + 1 := by omega
        exact ⟨by rw [pk_us, i2.1, if_neg a1, if_pos a2], by rw [pk_us, i2.2.1, if_neg a1, if_pos a2], by rw [pk_us, i2.2.2, if_neg a1, if_pos a2]⟩
      · rw [pk_un e, pk_un e, pk_un e, i1.1, i1.2.1, i1.2.2]
        by_cases c : k ≤ j ∧ j < m
        · rw [if_pos c, if_pos c, if_pos c, if_pos (by omega), if_pos (by omega), if_pos (by omega)]
          exact ⟨rfl, rfl, rfl⟩
        · rw [if_neg c, if_neg c, if_neg c, if_neg (by omega), if_neg (by omega), if_neg (by omega)]
          exact ⟨rfl, rfl, rfl⟩
theorem gs_sh_4 (z : gh_B) (k : Nat) : ∀ m : Nat, gh_sh z k m 4 = z 4
  | 0 => rfl
  | m + 1 => by
    rw [gh_sh]
    split
    · rfl
    · exact gs_sh_4 z k m
theorem gs_strike {n nn : Nat} {o z t r : gh_B} (hW : gs_W n nn o z t r) (y : Int32) : gm_k1 (gm_no r 1) (gm_sk r nn y.toNatClampNeg) (gh_iw y 0 (nI nn - 1)) 0 0 = gc_k1 (gh_rg y (z 3 0)) ∧ (gc_k1 (gh_rg y (z 3 0)) = 0 → gm_k1 0 (r 3 (3 * y.toNatClampNeg + 1)) (gh_iw y 0 (nI nn - 1)) = z 1 y.toNatClampNeg) ∧ ∃ nn' : Nat, gs_W n nn' o (gx_if (gc_k1 (gh_rg y (z 3 0))) (gh_st (gh_sh z y.toNatClampNeg (nn - 1)) 3 (fun _ => nI (nn - 1))) z) t (gm_k1 (gm_no r 1) (gm_sk r nn y.toNatClampNeg) (gh_iw y 0 (nI nn - 1))) := by
  have hn := hW.2.1.1
  rw [gs_rgi (by omega), hW.2.1.2.2.1, gs_t1 (gm_no r 1) (gm_no r 2) (gm_no r 3), gs_t1 0 0 0]
  have h4 := gs_4k1 (gh_rg y (nI nn))
  by_cases q : gc_k1 (gh_rg y (nI nn)) = 0
  · obtain ⟨k, hk, -, ek⟩ := gs_rgk (gs_k1o q) (by omega)
    rw [ek]
    refine ⟨gs_kr r _ h4 rfl, fun _ => ?_, nn - 1, ?_⟩
    · rw [gs_kp q]
      exact (hW.2.1.2.2.2.2.2 k hk).2.1.symm
    · rw [gs_kp q, gx_if_p q]
      obtain ⟨hR, ⟨s1, s2, s3, s4, s5, s6⟩, hZ⟩ := hW
      refine ⟨hR, ⟨by omega, rfl, rfl, ?_, s5, fun i hi => ?_⟩, hZ⟩
      · show gh_sh z k (nn - 1) 4 0 = r 1 0
        rw [gs_sh_4]; exact s4
      · have hs := gs_sh z k (nn - 1) (by omega) i
        have eC : ∀ j : Nat, gm_sk r nn k 3 j = if 3 * k ≤ j ∧ j < 3 * k + 3 * (nn - 1 - k) then r 3 (3 * k + 3 + (j - 3 * k)) else r 3 j := fun j => rfl
        show gh_sh z k (nn - 1) 0 i = _ ∧ gh_sh z k (nn - 1) 1 i = _ ∧ gh_sh z k (nn - 1) 2 i = _ ∧ 0 ≤ gh_sh z k (nn - 1) 1 i
        rw [eC, eC, eC, hs.1, hs.2.1, hs.2.2]
        by_cases c : k ≤ i
        · have s := s6 (i + 1) (by omega)
          rw [if_pos (by omega), if_pos (by omega), if_pos (by omega), if_pos (by omega), if_pos (by omega), if_pos (by omega), show 3 * k + 3 + (3 * i - 3 * k) = 3 * (i + 1) by omega, show 3 * k + 3 + (3 * i + 1 - 3 * k) = 3 * (i + 1) + 1 by omega, show 3 * k + 3 + (3 * i + 2 - 3 * k) = 3 * (i + 1) + 2 by omega]
          exact s
        · rw [if_neg (by omega), if_neg (by omega), if_neg (by omega), if_neg (by omega), if_neg (by omega), if_neg (by omega)]
          exact s6 i (by omega)
  · refine ⟨gs_kr r _ h4 rfl, fun e => absurd e q, nn, ?_⟩
    rw [gx_if_n rfl q]
    exact gs_kw hW h4 q _
/-! the first state, and what it says for the contracts -/
theorem gs_init : gs_W 0 0 gi_o gi_z gi_t gi_r := by
  refine ⟨⟨⟨by decide, rfl, rfl⟩, ⟨rfl, rfl, rfl, rfl⟩, fun j hj => ?_, fun k hk => absurd hk (Nat.not_lt_zero k)⟩, ⟨by decide, rfl, rfl, rfl, ⟨16, by decide, by decide, rfl⟩, fun i hi => absurd hi (Nat.not_lt_zero i)⟩, fun k _ _ => ⟨rfl, rfl, rfl, rfl, rfl, rfl⟩⟩
  rcases gx_4 hj with rfl | rfl | rfl | rfl <;> exact ⟨rfl, rfl⟩
theorem gs_hsz {n nn : Nat} {o z t r : gh_B} (hW : gs_W n nn o z t r) : ∀ j : Nat, j < n → ¬ 4 * r 6 j = 0 := fun j hj e => by
  obtain ⟨m, m1, m2, m3⟩ := (hW.1.2.2.2 j hj).2.2.1
  refine gs_49 m1 m2 ?_
  rw [← m3, e]
  decide
theorem gs_hrw {n nn : Nat} {o z t r : gh_B} (hW : gs_W n nn o z t r) : ∀ j : Nat, j < n → vp_in (r 5 j) 4 := fun j hj => by
  obtain ⟨w, w1, w2⟩ := (hW.1.2.2.2 j hj).2.1
  rw [w2]
  exact vp_in_nI w1 (by decide)
theorem gs_hln {n nn : Nat} {o z t r : gh_B} (hW : gs_W n nn o z t r) : ¬ r 1 0 = 0 := by
  obtain ⟨L, l1, l2, l3⟩ := hW.2.1.2.2.2.2.1
  rw [l3]
  exact nI_ne0 (by omega) (by omega)
