theorem gh_iw_r {y lo hi : Int32} {a b : Nat} (h : ¬ gh_iw y lo hi = 0) (hlo : lo = nI a) (hhi : hi = nI b) (ha : a < 2 ^ 31) (hb : b < 2 ^ 31) : ∃ k : Nat, a ≤ k ∧ k ≤ b ∧ y = nI k := by
  rw [gh_iw] at h
  by_cases h1 : y < lo
  · rw [if_pos h1] at h; exact absurd rfl h
  · rw [if_neg h1] at h
    by_cases h2 : hi < y
    · rw [if_pos h2] at h; exact absurd rfl h
    · have h3 : ¬ y < 0 := by
        intro q
        have e1 : (0 : Int32).toInt = 0 := by decide
        have e2 : (nI a).toInt = (a : Int) := nI_toInt ha
        have e3 := Int32.lt_iff_toInt_lt.mp q
        rw [e1] at e3
        exact h1 (Int32.lt_iff_toInt_lt.mpr (by rw [hlo, e2]; omega))
      obtain ⟨j, hj, e⟩ := nI_of h3
      refine ⟨j, ?_, ?_, e⟩
      · rw [e, hlo] at h1
        have h4 : ¬ j < a := fun q => h1 (nI_lt q ha)
        omega
      · rw [e, hhi] at h2
        have h4 : ¬ b < j := fun q => h2 (nI_lt q hj)
        omega
def gm_cl (r t : gh_B) (n nn : Nat) : Nat → Int32 := upd (upd (upd (upd (upd (upd (upd (upd (upd (fun _ => 0) 0 (t 0 0)) 1 (nI n)) 2 (gh_sm (t 7) n)) 3 (nI nn)) 4 (t 1 0)) 5 (t 2 0)) 6 (t 3 0)) 7 (gh_sm (t 4) 4)) 8 (gh_sm (fun i => gm_an r t i n) n / 2)
def gm_nd (r : gh_B) (k : Nat) (u : Int32) : Int32 := if gh_iw (4 * r 6 k * (120 - 8 * r 6 k - u)) 0 (100 * r 6 k) = 0 then -1 else 4 * r 6 k * (120 - 8 * r 6 k - u)
def gm_k3 {α : Type} (e1 e2 ok : α) (a b : Int32) : α := if a = 0 then e1 else if b = 0 then e2 else ok
def gm_fs (r t q : gh_B) (n nn b : Nat) : Nat → Int32 := upd (upd (upd (upd (fun _ => 0) 0 (gm_go r (gm_bc t q) n nn b 1 0 - t 1 0)) 1 (gm_go r (gm_bc t q) n nn b 2 0 - t 2 0)) 2 (gm_go r (gm_bc t q) n nn b 3 0 - t 3 0)) 3 (gh_sm (gm_go r (gm_bc t q) n nn b 7) n)
/-- the most in tune so far, and the glass for it -/
def gm_av (k f : Nat → Int32) (nd : Nat → Int32) (f0 : Int32) : Nat → Int32 × Int32
  | 0 => (f0, -1)
  | i + 1 => if k i = 1 then gm_av k f nd f0 i else if nd i = -1 then gm_av k f nd f0 i else if (gm_av k f nd f0 i).1 < f i then (f i, nI i) else gm_av k f nd f0 i
/-- the least pump that does -/
def gm_wl (f : Int32 → Int32) (c : Int32) : Nat → Nat → Nat
  | 0, p => p
  | k + 1, p => if f (nI p) ≤ c then p else gm_wl f c k (p + 1)
theorem gm_wl_at {f : Int32 → Int32} {c : Int32} {i : Nat} : ∀ (k p : Nat), p ≤ i → i ≤ p + k → (∀ j, p ≤ j → j < i → ¬ f (nI j) ≤ c) → (i = p + k ∨ f (nI i) ≤ c) → gm_wl f c k p = i
  | 0, p, h1, h2, _, _ => by rw [gm_wl]; omega
  | k + 1, p, h1, h2, h3, h4 => by
    rw [gm_wl]
    by_cases e : p = i
    · subst e
      rcases h4 with h4 | h4
      · omega
      · rw [if_pos h4]
    · rw [if_neg (h3 p (Nat.le_refl _) (by omega))]
      exact gm_wl_at k (p + 1) (by omega) (by omega) (fun j h5 h6 => h3 j (by omega) h6) (h4.imp (fun q => by omega) id)
def gd_1 (f : Nat → Int32) (d : Int64) : Nat → Int64
  | 0 => d
  | i + 1 => gd_1 f d i * 31 + (f i).toInt64
def gd_2 (f : Nat → Nat → Int32) (m : Nat) (d : Int64) : Nat → Int64
  | 0 => d
  | i + 1 => gd_1 (f i) (gd_2 f m d i) m
def gm_dg (r t : gh_B) (n nn : Nat) : Int64 := gd_1 (r 3) (gd_2 (fun k w => gm_rt r t n (nI k) (nI w)) 3 (gd_2 (fun k => gm_gl r t n k) 8 (gd_1 (gm_cl r t n nn) 829 9 * 31 + (r 1 0).toInt64) n) 4) (3 * nn)
