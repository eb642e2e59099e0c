/-! the reference's own methods: their branches as a tree, their answers, what they leave -/
def gm_z (r : gh_B) : gh_B := gh_st r 0 (fun _ => 0)
def gm_no (r : gh_B) (k : Int32) : gh_B := gh_st (gm_z r) 0 (fun _ => k)
def gm_kset {α : Type} (e1 e2 ok : α) (n : Nat) (x y w : Int32) : α := if gh_iw x 0 3 = 0 then e1 else if gh_iw y 1 9 = 0 then e1 else if gh_iw w 0 (100 * y) = 0 then e1 else if nI n = 16 then e2 else ok
def gm_ad (r : gh_B) (n : Nat) (x y : Int32) : gh_B := gh_st (gh_st (gh_st (gm_z r) 5 (upd (r 5) n x)) 6 (upd (r 6) n y)) 4 (fun _ => nI (n + 1))
def gm_kdrop {α : Type} (e1 e2 e3 ok : α) (r t : gh_B) (n : Nat) (y x : Int32) : α := if gh_iw y 0 (nI n - 1) = 0 then e1 else if x = 0 then e2 else if gh_iw x (-200) 200 = 0 then e2 else if t 7 y.toNatClampNeg = 1 then e3 else if gh_iw (t 6 y.toNatClampNeg + x) 0 (100 * r 6 y.toNatClampNeg) = 0 then e3 else ok
def gm_dr (t : gh_B) (y x : Int32) : gh_B := gh_st t 6 (upd (t 6) y.toNatClampNeg (t 6 y.toNatClampNeg + x))
def gm_kpump {α : Type} (e1 e2 ok : α) (x y : Int32) : α := if gh_iw x 0 3 = 0 then e1 else if gh_iw y 0 9 = 0 then e2 else ok
def gm_an (r t : gh_B) (k : Nat) : Nat → Int32
  | 0 => 0
  | i + 1 => gm_an r t k i + if nI i = nI k then 0 else if gm_ag r t i k = 0 then 0 else 1
def gm_gl (r t : gh_B) (n k : Nat) : Nat → Int32 := upd (upd (upd (upd (upd (upd (upd (upd (fun _ => 0) 0 (r 5 k)) 1 (r 6 k)) 2 (t 6 k)) 3 (gm_tn r t k)) 4 (t 7 k)) 5 (t 8 k)) 6 (t 9 k)) 7 (gm_an r t k n)
def gm_k2 {α : Type} (e1 ok : α) (a b : Int32) : α := if a = 0 then e1 else if b = 0 then e1 else ok
def gm_rs (f : Nat → Int32) (y : Int32) : Nat → Int32
  | 0 => 0
  | i + 1 => gm_rs f y i + if f i = y then 1 else 0
def gm_rt (r t : gh_B) (n : Nat) (y w : Int32) : Int32 := if w = 0 then t 4 y.toNatClampNeg else if w = 1 then t 5 y.toNatClampNeg else gm_rs (r 5) y n
def gm_k1 {α : Type} (e1 ok : α) (a : Int32) : α := if a = 0 then e1 else ok
def gm_knote {α : Type} (e1 e2 ok : α) (nn : Nat) (x y w : Int32) : α := if gh_iw x 0 63 = 0 then e1 else if gh_iw y 0 120 = 0 then e1 else if gh_iw w 1 9 = 0 then e1 else if nI nn = 32 then e2 else ok
def gm_nw (r : gh_B) (nn : Nat) (x y w : Int32) : gh_B := gh_st (gh_st (gm_z r) 3 (va_cpy (upd (upd (upd (fun _ => 0) 0 x) 1 y) 2 w) (r 3) 0 (3 * nn) 3)) 2 (fun _ => nI (nn + 1))
def gm_sk (r : gh_B) (nn : Nat) (k : Nat) : gh_B := gh_st (gh_st (gm_z r) 2 (fun _ => nI (nn - 1))) 3 (va_cpy (r 3) (r 3) (3 * k + 3) (3 * k) (3 * (nn - 1 - k)))
theorem gm_ig {y : Int32} {n : Nat} (h : ¬ gh_iw y 0 (nI n - 1) = 0) (hn : n < 2 ^ 31) : ∃ k : Nat, k < n ∧ y = nI k := by
  rw [gh_iw] at h
  by_cases h1 : y < 0
  · rw [if_pos h1] at h; exact absurd rfl h
  · rw [if_neg h1] at h
    by_cases h2 : nI n - 1 < y
    · rw [if_pos h2] at h; exact absurd rfl h
    · obtain ⟨j, hj, e⟩ := nI_of h1
      cases n with
      | zero =>
        rw [e] at h2 h1
        have h3 : (nI 0 - 1).toInt = -1 := by decide
        have h4 : (nI j).toInt = (j : Int) := nI_toInt hj
        exact absurd (Int32.lt_iff_toInt_lt.mpr (by rw [h3, h4]; omega)) h2
      | succ n =>
        refine ⟨j, ?_, e⟩
        rw [nI_pred, e] at h2
        have h3 : ¬ n < j := fun q => h2 (nI_lt q hj)
        omega
theorem gm_i8 {y : Int32} {k : Nat} {hi : Int32} (h : ¬ gh_iw y 0 hi = 0) (hh : hi = nI (k - 1)) (h0 : 0 < k) (hk : k < 2 ^ 30) : ∃ j : Nat, j < k ∧ y = nI j := by
  have h2 : ¬ gh_iw y 0 (nI k - 1) = 0 := by
    have e : nI k - 1 = nI (k - 1) := by
      obtain ⟨j, rfl⟩ : ∃ j, k = j + 1 := ⟨k - 1, by omega⟩
      rw [nI_pred]; rfl
    rw [e, ← hh]; exact h
  exact gm_ig h2 (by omega)
