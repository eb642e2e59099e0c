/-! the branches: class and reference answer alike -/
def gs_k {α : Type} (k : Int32) (ok e1 e2 e3 : α) : α := if k = 0 then ok else if k = 1 then e1 else if k = 2 then e2 else e3
theorem gs_kp {α : Type} {k : Int32} {ok e1 e2 e3 : α} (h : k = 0) : gs_k k ok e1 e2 e3 = ok := if_pos h
theorem gs_kn {α : Type} {k : Int32} {ok e1 e2 e3 : α} (h : ¬ k = 0) : gs_k k ok e1 e2 e3 = gs_k k e1 e1 e2 e3 := by
  unfold gs_k
  rw [if_neg h, if_neg h]
def gs_4 (k : Int32) : Prop := k = 0 ∨ k = 1 ∨ k = 2 ∨ k = 3
theorem gs_kr (r q : gh_B) {k : Int32} (h : gs_4 k) (hq : q 0 0 = 0) : gs_k k q (gm_no r 1) (gm_no r 2) (gm_no r 3) 0 0 = k := by
  rcases h with rfl | rfl | rfl | rfl
  · exact hq
  · rfl
  · rfl
  · rfl
theorem gs_kw {n nn : Nat} {o z t r : gh_B} (hW : gs_W n nn o z t r) {k : Int32} (hk : gs_4 k) (h0 : ¬ k = 0) (q : gh_B) : gs_W n nn o z t (gs_k k q (gm_no r 1) (gm_no r 2) (gm_no r 3)) := by
  rcases hk with rfl | rfl | rfl | rfl
  · exact absurd rfl h0
  · exact hW.no 1
  · exact hW.no 2
  · exact hW.no 3
theorem gs_4k1 (a : Int32) : gs_4 (gc_k1 a) := by unfold gc_k1 gs_4; split <;> simp
theorem gs_4k2 (a b : Int32) : gs_4 (gc_k2 a b) := by unfold gc_k2 gs_4; split <;> (try split) <;> simp
theorem gs_4k3 (a b : Int32) : gs_4 (gc_k3 a b) := by unfold gc_k3 gs_4; split <;> (try split) <;> simp
theorem gs_4set (n : Nat) (y u v : Int32) : gs_4 (gc_set n y u v) := by unfold gc_set gs_4; repeat' split
                                                                        all_goals simp
theorem gs_4note (n : Nat) (y u v : Int32) : gs_4 (gc_note n y u v) := by unfold gc_note gs_4; repeat' split
                                                                          all_goals simp
theorem gs_4drop (o : gh_B) (y v : Int32) : gs_4 (gc_drop o y v) := by unfold gc_drop gs_4; repeat' split
                                                                       all_goals simp
theorem gs_t1 {α : Type} (e1 e2 e3 ok : α) (a : Int32) : gm_k1 e1 ok a = gs_k (gc_k1 a) ok e1 e2 e3 := by
  unfold gm_k1 gc_k1 gs_k
  by_cases c1 : a = 0 <;> simp [c1]
theorem gs_t2 {α : Type} (e1 e2 e3 ok : α) (a b : Int32) : gm_k2 e1 ok a b = gs_k (gc_k2 a b) ok e1 e2 e3 := by
  unfold gm_k2 gc_k2 gs_k
  by_cases c1 : a = 0 <;> by_cases c2 : b = 0 <;> simp [c1, c2]
theorem gs_t3 {α : Type} (e1 e2 e3 ok : α) (a b : Int32) : gm_k3 e1 e2 ok a b = gs_k (gc_k3 a b) ok e1 e2 e3 := by
  unfold gm_k3 gc_k3 gs_k
  by_cases c1 : a = 0 <;> by_cases c2 : b = 0 <;> simp [c1, c2]
theorem gs_tp {α : Type} (e1 e2 e3 ok : α) (x y : Int32) : gm_kpump e1 e2 ok x y = gs_k (gc_k3 (gh_iw x 0 3) (gh_iw y 0 9)) ok e1 e2 e3 := by
  unfold gm_kpump gc_k3 gs_k
  by_cases c1 : gh_iw x 0 3 = 0 <;> by_cases c2 : gh_iw y 0 9 = 0 <;> simp [c1, c2]
theorem gs_n16 {n m : Nat} (hn : n ≤ m) (hm : m ≤ 32) : nI n = nI m ↔ ¬ nI n < nI m := by
  rw [nI_eq (by omega) (by omega), nI_ltI (by omega) (by omega)]
  omega
theorem gs_ts {α : Type} (e1 e2 e3 ok : α) {n : Nat} (y u v : Int32) (hn : n ≤ 16) : gm_kset e1 e2 ok n y u v = gs_k (gc_set n y u v) ok e1 e2 e3 := by
  unfold gm_kset gc_set gs_k
  have e : nI n = 16 ↔ ¬ nI n < 16 := gs_n16 (m := 16) hn (by decide)
  by_cases c1 : gh_iw y 0 3 = 0
  · simp [c1]
  · by_cases c2 : gh_iw u 1 9 = 0
    · simp [c1, c2]
    · by_cases c3 : gh_iw v 0 (100 * u) = 0
      · simp [c1, c2, c3]
      · by_cases c4 : nI n < 16
        · rw [if_neg c1, if_neg c2, if_neg c3, if_neg (fun q => e.mp q c4), if_neg c1, if_neg c2, if_neg c3, if_pos c4, if_pos rfl]
        · rw [if_neg c1, if_neg c2, if_neg c3, if_pos (e.mpr c4), if_neg c1, if_neg c2, if_neg c3, if_neg c4, if_neg (by decide), if_neg (by decide), if_pos rfl]
theorem gs_tn' {α : Type} (e1 e2 e3 ok : α) {n : Nat} (y u v : Int32) (hn : n ≤ 32) : gm_knote e1 e2 ok n y u v = gs_k (gc_note n y u v) ok e1 e2 e3 := by
  unfold gm_knote gc_note gs_k
  have e : nI n = 32 ↔ ¬ nI n < 32 := gs_n16 (m := 32) hn (by decide)
  by_cases c1 : gh_iw y 0 63 = 0
  · simp [c1]
  · by_cases c2 : gh_iw u 0 120 = 0
    · simp [c1, c2]
    · by_cases c3 : gh_iw v 1 9 = 0
      · simp [c1, c2, c3]
      · by_cases c4 : nI n < 32
        · rw [if_neg c1, if_neg c2, if_neg c3, if_neg (fun q => e.mp q c4), if_neg c1, if_neg c2, if_neg c3, if_pos c4, if_pos rfl]
        · rw [if_neg c1, if_neg c2, if_neg c3, if_pos (e.mpr c4), if_neg c1, if_neg c2, if_neg c3, if_neg c4, if_neg (by decide), if_neg (by decide), if_pos rfl]
theorem gs_rgk {y : Int32} {n : Nat} (h : ¬ gh_rg y (nI n) = 0) (hn : n ≤ 32) : ∃ k : Nat, k < n ∧ y = nI k ∧ y.toNatClampNeg = k := by
  obtain ⟨k, hk, ek⟩ := gh_rg_k h rfl (by omega)
  exact ⟨k, hk, ek, by rw [ek, nI_clamp (by omega)]⟩
theorem gs_td {α : Type} (e1 e2 e3 ok : α) {n nn : Nat} {o z t r : gh_B} (hW : gs_W n nn o z t r) (y v : Int32) : gm_kdrop e1 e2 e3 ok r t n y v = gs_k (gc_drop o y v) ok e1 e2 e3 := by
  obtain ⟨⟨⟨hn, h0, h4⟩, hC, hA, hG⟩, -, -⟩ := hW
  unfold gm_kdrop gc_drop gs_k
  rw [gs_rgi (by omega), h0]
  by_cases c1 : gh_rg y (nI n) = 0
  · simp [c1]
  · obtain ⟨k, hk, -, ek⟩ := gs_rgk c1 (by omega)
    have g := hG k hk
    rw [ek, g.1.2.1, g.1.2.2.1, g.1.2.2.2.1]
    by_cases c2 : v = 0
    · simp [c1, c2]
    · by_cases c3 : gh_iw v (-200) 200 = 0
      · simp [c1, c2, c3]
      · rcases g.2.2.2 with h7 | h7
        · by_cases c5 : gh_iw (t 6 k + v) 0 (100 * r 6 k) = 0 <;> simp [c1, c2, c3, h7, c5]
        · simp [c1, c2, c3, h7]
theorem gs_pump {n nn : Nat} {o z t r : gh_B} (hW : gs_W n nn o z t r) (y v : Int32) : gm_kpump (gm_no r 1) (gm_no r 2) (gm_z r) y v 0 0 = gc_k3 (gh_iw y 0 3) (gh_iw v 0 9) ∧ (gc_k3 (gh_iw y 0 3) (gh_iw v 0 9) = 0 → gm_kpump 0 0 (t 5 y.toNatClampNeg) y v = o 9 y.toNatClampNeg) ∧ gs_W n nn (gx_if (gc_k3 (gh_iw y 0 3) (gh_iw v 0 9)) (gh_st o 9 (upd (o 9) y.toNatClampNeg v)) o) z (gm_kpump t t (gh_st t 5 (upd (t 5) y.toNatClampNeg v)) y v) (gm_kpump (gm_no r 1) (gm_no r 2) (gm_z r) y v) := by
  rw [gs_tp (gm_no r 1) (gm_no r 2) (gm_no r 3), gs_tp 0 0 0, gs_tp t t t]
  have h4 := gs_4k3 (gh_iw y 0 3) (gh_iw v 0 9)
  refine ⟨gs_kr r _ h4 rfl, fun q => ?_, ?_⟩
  · rw [gs_kp q]
    have c1 : ¬ gh_iw y 0 3 = 0 := fun e => by rw [gc_k3, if_pos e] at q; exact absurd q (by decide)
    obtain ⟨q1, q2⟩ := gs_iw c1
    obtain ⟨m, -, m2, m3⟩ := gs_nat (a := 0) (b := 3) q1 q2 (by decide)
    rw [m3, nI_clamp (by omega)]
    exact (hW.1.2.2.1 m (by omega)).2.symm
  · by_cases q : gc_k3 (gh_iw y 0 3) (gh_iw v 0 9) = 0
    · rw [gs_kp q, gs_kp q, gx_if_p q]
      exact ⟨⟨hW.1.1, hW.1.2.1, fun j hj => ⟨(hW.1.2.2.1 j hj).1, gs_up (hW.1.2.2.1 j hj).2 rfl⟩, hW.1.2.2.2⟩, hW.2⟩
    · rw [gx_if_n rfl q]
      have e : gs_k (gc_k3 (gh_iw y 0 3) (gh_iw v 0 9)) (gh_st t 5 (upd (t 5) y.toNatClampNeg v)) t t t = t := by unfold gs_k; rw [if_neg q]; split <;> (try split) <;> rfl
      rw [e]
      exact gs_kw hW h4 q _
theorem gs_ks {α : Type} {k : Int32} (x y : α) (h : ¬ k = 0) : gs_k k x y y y = y := by unfold gs_k; rw [if_neg h]; split <;> (try split) <;> rfl
theorem gs_drop {n nn : Nat} {o z t r : gh_B} (hW : gs_W n nn o z t r) (y v : Int32) : gm_kdrop (gm_no r 1) (gm_no r 2) (gm_no r 3) (gm_z r) r t n y v 0 0 = gc_drop o y v ∧ (gc_drop o y v = 0 → gm_kdrop 0 0 0 (gm_tn (gm_z r) (gm_dr t y v) y.toNatClampNeg) r t n y v = gh_tn (gc_dp o y v) y.toNatClampNeg) ∧ gs_W n nn (gx_if (gc_drop o y v) (gc_dp o y v) o) z (gm_kdrop t t t (gm_dr t y v) r t n y v) (gm_kdrop (gm_no r 1) (gm_no r 2) (gm_no r 3) (gm_z r) r t n y v) := by
  rw [gs_td (gm_no r 1) (gm_no r 2) (gm_no r 3) _ hW, gs_td 0 0 0 _ hW, gs_td t t t _ hW]
  have h4 := gs_4drop o y v
  have key : gc_drop o y v = 0 → (∃ k : Nat, k < n ∧ y.toNatClampNeg = k) ∧ gs_W n nn (gc_dp o y v) z (gm_dr t y v) r := by
    intro q
    have c1 : ¬ gh_rg y (nI n) = 0 := fun e => by rw [gc_drop, hW.1.1.2.1, if_pos e] at q; exact absurd q (by decide)
    obtain ⟨k, hk, -, ek⟩ := gs_rgk c1 (by have := hW.1.1.1; omega)
    refine ⟨⟨k, hk, ek⟩, ⟨hW.1.1, hW.1.2.1, hW.1.2.2.1, fun j hj => ?_⟩, hW.2⟩
    have g := hW.1.2.2.2 j hj
    refine ⟨⟨g.1.1, g.1.2.1, gs_up g.1.2.2.1 ?_, g.1.2.2.2⟩, g.2⟩
    rw [ek, (hW.1.2.2.2 k hk).1.2.2.1]
  refine ⟨gs_kr r _ h4 rfl, fun q => ?_, ?_⟩
  · obtain ⟨⟨k, hk, ek⟩, hW'⟩ := key q
    rw [gs_kp q, ek]
    exact (gs_g.tn (hW'.1.2.2.2 k hk)).symm
  · by_cases q : gc_drop o y v = 0
    · rw [gs_kp q, gs_kp q, gx_if_p q]
      exact (key q).2
    · rw [gx_if_n rfl q, gs_ks _ _ q]
      exact gs_kw hW h4 q _
theorem gs_set {n nn : Nat} {o z t r : gh_B} (hW : gs_W n nn o z t r) (y u v : Int32) : gm_kset (gm_no r 1) (gm_no r 2) (gm_ad r n y u) n y u v 0 0 = gc_set n y u v ∧ (gc_set n y u v = 0 → gm_kset 0 0 (nI n) n y u v = nI n) ∧ ∃ n' : Nat, gs_W n' nn (gx_if (gc_set n y u v) (gh_ad o n y u v) o) z (gm_kset t t (gh_st t 6 (upd (t 6) n v)) n y u v) (gm_kset (gm_no r 1) (gm_no r 2) (gm_ad r n y u) n y u v) := by
  have hn := hW.1.1.1
  rw [gs_ts (gm_no r 1) (gm_no r 2) (gm_no r 3) _ _ _ _ hn, gs_ts 0 0 0 _ _ _ _ hn, gs_ts t t t _ _ _ _ hn]
  have h4 := gs_4set n y u v
  refine ⟨gs_kr r _ h4 rfl, fun q => gs_kp q, ?_⟩
  by_cases q : gc_set n y u v = 0
  · rw [gs_kp q, gs_kp q, gx_if_p q]
    have c1 : ¬ gh_iw y 0 3 = 0 := fun e => by rw [gc_set, if_pos e] at q; exact absurd q (by decide)
    have c2 : ¬ gh_iw u 1 9 = 0 := fun e => by rw [gc_set, if_neg c1, if_pos e] at q; exact absurd q (by decide)
    have c3 : ¬ gh_iw v 0 (100 * u) = 0 := fun e => by rw [gc_set, if_neg c1, if_neg c2, if_pos e] at q; exact absurd q (by decide)
    have c4 : nI n < 16 := by
      by_cases e : nI n < 16
      · exact e
      · rw [gc_set, if_neg c1, if_neg c2, if_neg c3, if_neg e] at q; exact absurd q (by decide)
    have hn15 : n < 16 := gh_lt_n (m := 16) c4 rfl (by omega) (by decide)
    obtain ⟨a1, a2⟩ := gs_iw c1
    obtain ⟨w, -, w2, w3⟩ := gs_nat (a := 0) (b := 3) a1 a2 (by decide)
    obtain ⟨b1, b2⟩ := gs_iw c2
    obtain ⟨m, m1, m2, m3⟩ := gs_nat (a := 1) (b := 9) b1 b2 (by decide)
    obtain ⟨⟨-, hC, hA, hG⟩, hS, hZ⟩ := hW
    refine ⟨n + 1, ?_⟩
    rw [gh_ad, if_pos c4]
    refine ⟨⟨⟨by omega, rfl, rfl⟩, hC, hA, fun j hj => ?_⟩, hS, fun k k1 k2 => hZ k (by omega) k2⟩
    by_cases e : j = n
    · subst e
      have z0 := hZ j (Nat.le_refl j) hn15
      refine ⟨⟨?_, ?_, ?_, z0.1.trans z0.2.2.2.1.symm, z0.2.1.trans z0.2.2.2.2.1.symm, z0.2.2.1.trans z0.2.2.2.2.2.symm⟩, ⟨w, by omega, ?_⟩, ⟨m, m1, m2, ?_⟩, Or.inl z0.2.2.2.1⟩
      · show upd (o 1) j y j = upd (r 5) j y j
        rw [pk_us, pk_us]
      · show upd (o 2) j u j = upd (r 6) j u j
        rw [pk_us, pk_us]
      · show upd (o 3) j v j = upd (t 6) j v j
        rw [pk_us, pk_us]
      · show upd (r 5) j y j = nI w
        rw [pk_us]; exact w3
      · show upd (r 6) j u j = nI m
        rw [pk_us]; exact m3
    · have g := hG j (by omega)
      obtain ⟨w', w1', w2'⟩ := g.2.1
      obtain ⟨m', m1', m2', m3'⟩ := g.2.2.1
      refine ⟨⟨gs_up g.1.1 rfl, gs_up g.1.2.1 rfl, gs_up g.1.2.2.1 rfl, g.1.2.2.2⟩, ⟨w', w1', ?_⟩, ⟨m', m1', m2', ?_⟩, g.2.2.2⟩
      · show upd (r 5) n y j = nI w'
        rw [pk_un e]; exact w2'
      · show upd (r 6) n u j = nI m'
        rw [pk_un e]; exact m3'
  · rw [gx_if_n rfl q, gs_ks _ _ q]
    exact ⟨n, gs_kw hW h4 q _⟩
