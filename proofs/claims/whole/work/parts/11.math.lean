/-! what the methods of the front answer, in plain numbers: in the order of their own branches -/
def gh_rg (x n : Int32) : Int32 := if x < 0 then 0 else if n ≤ x then 0 else 1
def gh_iw (x lo hi : Int32) : Int32 := if x < lo then 0 else if hi < x then 0 else 1
def gh_ds (t u : Int32) : Int32 := if u ≤ t then t - u else u - t
theorem gh_rg_1 {k n : Nat} {x : Int32} (hx : x = nI n) (hn : n < 2 ^ 31) (hk : k < n) : gh_rg (nI k) x = 1 := by
  rw [gh_rg, if_neg (nI_pos (Nat.lt_trans hk hn)), hx, if_neg (nI_ge hk hn)]
theorem gh_rg_k {x y : Int32} {n : Nat} (h : ¬ gh_rg x y = 0) (hy : y = nI n) (hn : n < 2 ^ 31) : ∃ k : Nat, k < n ∧ x = nI k := by
  rw [gh_rg] at h
  by_cases h1 : x < 0
  · rw [if_pos h1] at h; exact absurd rfl h
  · rw [if_neg h1] at h
    by_cases h2 : y ≤ x
    · rw [if_pos h2] at h; exact absurd rfl h
    · rw [hy] at h2
      rcases pk_ix x hn with q | q | q
      · exact absurd q h1
      · exact absurd q h2
      · exact q
theorem gh_iw_k {x : Int32} {n : Nat} {hi : Int32} (h : ¬ gh_iw x 0 hi = 0) (hh : hi + 1 = nI n) (hn : n < 2 ^ 31) (h0 : 0 < n) (hhi : hi = nI (n - 1)) : ∃ k : Nat, k < n ∧ x = nI k := by
  rw [gh_iw] at h
  by_cases h1 : x < 0
  · rw [if_pos h1] at h; exact absurd rfl h
  · rw [if_neg h1] at h
    by_cases h2 : hi < x
    · rw [if_pos h2] at h; exact absurd rfl h
    · obtain ⟨j, hj, e⟩ := nI_of h1
      refine ⟨j, ?_, e⟩
      rw [e, hhi] at h2
      have h3 : ¬ (n - 1 < j) := fun q => h2 (nI_lt q hj)
      omega
/-- the drops that lower the tone -/
def gh_lw (o : gh_B) (k : Nat) : Int32 := if 4 * o 2 k ≤ 0 then 0 else o 3 k / (4 * o 2 k)
/-- the tone of a glass -/
def gh_tn (o : gh_B) (k : Nat) : Int32 := if 0 < 120 - 8 * o 2 k - gh_lw o k then 120 - 8 * o 2 k - gh_lw o k else 0
def gh_fw (o : gh_B) (k : Nat) (t : Int32) : Int32 := if gh_iw (4 * o 2 k * (120 - 8 * o 2 k - t)) 0 (100 * o 2 k) = 0 then -1 else 4 * o 2 k * (120 - 8 * o 2 k - t)
def gh_cb (o : gh_B) (k : Nat) (t : Int32) : Int32 := if o 4 k = 0 then if gh_fw o k t = -1 then 0 else 1 else 0
def gh_cn (f : Nat → Int32) : Nat → Int32
  | 0 => 0
  | i + 1 => if f i = 0 then gh_cn f i else gh_cn f i + 1
def gh_cr (f : Nat → Int32) (r : Int32) : Nat → Int32
  | 0 => 0
  | i + 1 => if f i = r then gh_cr f r i + 1 else gh_cr f r i
def gh_sm (f : Nat → Int32) : Nat → Int32
  | 0 => 0
  | i + 1 => gh_sm f i + f i
/-- two glasses beat against each other -/
def gh_ba (o : gh_B) (g j : Nat) : Int32 := if o 5 g < 1 then 0 else if 1 ≤ o 5 j then gh_iw (gh_ds (gh_tn o g) (gh_tn o j)) 1 2 else 0
def gh_ha (o : gh_B) (r f : Int32) : Int32 := if gh_iw r 0 3 = 0 then 0 else if o 8 r.toNatClampNeg < f then 0 else 1
/-- the glass that plays, and how far it is off -/
def gh_pf (o : gh_B) (t f : Int32) : Nat → Int32 × Int32
  | 0 => (-1, 7)
  | i + 1 => if o 4 i = 0 then if o 7 i = 0 then if gh_ha o (o 1 i) f = 0 then gh_pf o t f i else if (gh_pf o t f i).2 ≤ gh_ds (gh_tn o i) t then gh_pf o t f i else (nI i, gh_ds (gh_tn o i) t) else gh_pf o t f i else gh_pf o t f i
theorem gh_iwb (x lo hi : Int32) : narrow .boolean (.int (gh_iw x lo hi)) = .int (gh_iw x lo hi) := by
  unfold gh_iw; split
  · rfl
  · split <;> rfl
theorem gh_iw_in {r : Int32} (h : ¬ gh_iw r 0 3 = 0) : vp_in r 4 := by
  obtain ⟨k, hk, e⟩ := gh_iw_k (n := 4) h (by decide) (by decide) (by decide) (by decide)
  rw [e]; exact vp_in_nI hk (by decide)
