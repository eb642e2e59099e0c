/-! the reference's methods, in plain numbers: t a state of it, r its own fields -/
def gm_ab (x : Int32) : Int32 := if 0 ≤ x then x else 0 - x
def gm_tn (r t : gh_B) (k : Nat) : Int32 := gh_m0 (120 - 8 * r 6 k - t 6 k / (4 * r 6 k))
def gm_of (r t : gh_B) (k : Nat) (u : Int32) : Int32 := gm_ab (gm_tn r t k - u)
def gm_bz (t : gh_B) (i : Nat) : Int32 := (t 10 0 >>> (nI i &&& 31)) &&& 1
def gm_bs (r t : gh_B) (u f : Int32) : Nat → Int32
  | 0 => -1
  | i + 1 => if t 7 i = 1 then gm_bs r t u f i else if gm_bz t i = 1 then gm_bs r t u f i else if t 4 (r 5 i).toNatClampNeg < f then gm_bs r t u f i else if gm_of r t i u ≤ 6 then if gm_bs r t u f i = -1 then nI i else if gm_of r t (gm_bs r t u f i).toNatClampNeg u ≤ gm_of r t i u then gm_bs r t u f i else nI i else gm_bs r t u f i
def gm_c1 (r t : gh_B) (k : Nat) (u : Int32) : gh_B := gh_st (gh_st t 1 (fun _ => t 1 0 + 1)) 2 (fun _ => t 2 0 + if 1 < gm_of r (gh_st t 1 (fun _ => t 1 0 + 1)) k u then 0 else 1)
def gm_c2 (r t : gh_B) (k : Nat) (f : Int32) : gh_B := gh_st (gh_st (gh_st (gh_st (gh_st t 10 (fun _ => t 10 0 ||| (1 <<< (nI k &&& 31)))) 9 (upd (t 9) k (t 9 k + 1))) 4 (upd (t 4) (r 5 k).toNatClampNeg (t 4 (r 5 k).toNatClampNeg - f))) 8 (upd (t 8) k 9)) 6 (upd (t 6) k (gh_m0 (t 6 k - f)))
def gm_c3 (r t : gh_B) (k : Nat) (f : Int32) : gh_B := if r 6 k + 3 < f then gh_st (gh_st (gh_st (gm_c2 r t k f) 7 (upd (t 7) k 1)) 6 (upd (upd (t 6) k (gh_m0 (t 6 k - f))) k 0)) 8 (upd (upd (t 8) k 9) k 0) else gm_c2 r t k f
def gm_hit (r t : gh_B) (k : Nat) (u f : Int32) : gh_B := gm_c3 r (gm_c1 r t k u) k f
def gm_cm (r t : gh_B) (n : Nat) (u f : Int32) : gh_B := if gm_bs r t u f n = -1 then gh_st t 3 (fun _ => t 3 0 + 1) else gm_hit r t (gm_bs r t u f n).toNatClampNeg u f
def gm_fb (t : gh_B) : Nat → gh_B
  | 0 => t
  | i + 1 => gh_st (gm_fb t i) 4 (upd (gm_fb t i 4) i (gh_mn (gm_fb t i 4 i + gm_fb t i 5 i)))
def gm_ns (r t : gh_B) (n : Nat) : Nat → gh_B
  | 0 => t
  | i + 1 => if r 3 (3 * i) = gm_ns r t n i 0 0 - gm_ns r t n i 0 0 / r 1 0 * r 1 0 then gm_cm r (gm_ns r t n i) n (r 3 (3 * i + 1)) (r 3 (3 * i + 2)) else gm_ns r t n i
def gm_f1 (t : gh_B) (i : Nat) : gh_B := if gm_bz t i = 0 then gh_st t 8 (upd (t 8) i (gh_m0 (t 8 i - 1))) else t
def gm_f2 (t : gh_B) (i : Nat) : gh_B := if t 0 0 - t 0 0 / 8 * 8 = 0 then gh_st t 6 (upd (t 6) i (gh_m0 (t 6 i - 1))) else t
def gm_fd (t : gh_B) : Nat → gh_B
  | 0 => t
  | i + 1 => gm_f2 (gm_f1 (gm_fd t i) i) i
def gm_be (t : gh_B) : gh_B := gh_st t 0 (fun _ => t 0 0 + 1)
/-- one beat of the reference -/
def gm_pass (r t : gh_B) (n nn : Nat) : gh_B := gm_be (gm_fd (gm_ns r (gh_st (gm_fb t 4) 10 (fun _ => 0)) n nn) n)
def gm_go (r t : gh_B) (n nn : Nat) : Nat → gh_B
  | 0 => t
  | i + 1 => gm_pass r (gm_go r t n nn i) n nn
def gm_bc (q t : gh_B) : gh_B := gh_st (gh_st (gh_st (gh_st (gh_st (gh_st (gh_st (gh_st (gh_st (gh_st t 0 (fun _ => q 0 0)) 1 (fun _ => q 1 0)) 2 (fun _ => q 2 0)) 3 (fun _ => q 3 0)) 4 (va_cpy (q 4) (t 4) 0 0 4)) 5 (va_cpy (q 5) (t 5) 0 0 4)) 6 (va_cpy (q 6) (t 6) 0 0 16)) 7 (va_cpy (q 7) (t 7) 0 0 16)) 8 (va_cpy (q 8) (t 8) 0 0 16)) 9 (va_cpy (q 9) (t 9) 0 0 16)
def gm_ag (r t : gh_B) (g j : Nat) : Int32 := if t 8 g ≤ 0 then 0 else if t 8 j ≤ 0 then 0 else if gm_ab (gm_tn r t g - gm_tn r t j) = 1 then 1 else if gm_ab (gm_tn r t g - gm_tn r t j) = 2 then 1 else 0
/-- the best place so far is none, or one of those before i -/
def gm_bo (x : Int32) (i : Nat) : Prop := x = -1 ∨ ∃ k : Nat, k < i ∧ x = nI k
theorem gm_bo_s {x : Int32} {i : Nat} (h : gm_bo x i) : gm_bo x (i + 1) := h.elim Or.inl (fun ⟨k, h1, h2⟩ => Or.inr ⟨k, Nat.lt_succ_of_lt h1, h2⟩)
theorem gm_bo_n (i : Nat) : gm_bo (nI i) (i + 1) := Or.inr ⟨i, Nat.lt_succ_self i, rfl⟩
theorem gm_bo_k {x : Int32} {i : Nat} (h : gm_bo x i) (hx : ¬ x = -1) : ∃ k : Nat, k < i ∧ x = nI k := h.elim (fun e => absurd e hx) id
