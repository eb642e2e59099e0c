/-! what the methods that write do to a state -/
def gh_mn (x : Int32) : Int32 := if x < 60 then x else 60
def gh_m0 (x : Int32) : Int32 := if 0 < x then x else 0
def gh_fb (o : gh_B) : Nat → gh_B
  | 0 => o
  | i + 1 => gh_st (gh_fb o i) 8 (upd (gh_fb o i 8) i (gh_mn (gh_fb o i 8 i + gh_fb o i 9 i)))
def gh_r1 (o : gh_B) (k : Nat) (t : Int32) : gh_B := if 1 < gh_ds (gh_tn (gh_st o 12 (fun _ => o 12 0 + 1)) k) t then gh_st o 12 (fun _ => o 12 0 + 1) else gh_st (gh_st o 12 (fun _ => o 12 0 + 1)) 13 (fun _ => o 13 0 + 1)
def gh_r2 (o : gh_B) (k : Nat) (f : Int32) : gh_B := if gh_ha o (o 1 k) f = 0 then o else gh_st o 8 (upd (o 8) (o 1 k).toNatClampNeg (o 8 (o 1 k).toNatClampNeg - f))
def gh_r3 (o : gh_B) (k : Nat) (f : Int32) : gh_B := gh_st (gh_st (gh_st (gh_st o 7 (upd (o 7) k 1)) 6 (upd (o 6) k (o 6 k + 1))) 5 (upd (o 5) k 9)) 3 (upd (o 3) k (gh_m0 (o 3 k - f)))
def gh_r4 (o : gh_B) (k : Nat) (f : Int32) : gh_B := if f ≤ o 2 k + 3 then gh_r3 o k f else gh_st (gh_st (gh_st (gh_r3 o k f) 4 (upd (o 4) k 1)) 3 (upd (upd (o 3) k (gh_m0 (o 3 k - f))) k 0)) 5 (upd (upd (o 5) k 9) k 0)
def gh_rub (o : gh_B) (k : Nat) (t f : Int32) : gh_B := gh_r4 (gh_r2 (gh_r1 o k t) k f) k f
def gh_nb (o : gh_B) : Nat → gh_B
  | 0 => o
  | i + 1 => gh_st (gh_nb o i) 7 (upd (gh_nb o i 7) i 0)
/-- the place in the score -/
def gh_at (z : gh_B) (x : Int32) : Int32 := if z 4 0 ≤ 0 then 0 else x - x / z 4 0 * z 4 0
def gh_nt (z o : gh_B) (n i : Nat) : gh_B := if gh_rg (gh_pf o (z 1 i) (z 2 i) n).1 (o 10 0) = 0 then gh_st o 14 (fun _ => o 14 0 + 1) else gh_rub o (gh_pf o (z 1 i) (z 2 i) n).1.toNatClampNeg (z 1 i) (z 2 i)
def gh_ns (z o : gh_B) (n : Nat) (p : Int32) : Nat → gh_B
  | 0 => o
  | i + 1 => if z 0 i = p then gh_nt z (gh_ns z o n p i) n i else gh_ns z o n p i
def gh_pn (z o : gh_B) (n nn : Nat) : gh_B := gh_ns z (gh_nb o n) n (gh_at z (gh_nb o n 11 0)) nn
def gh_dr (x : Int32) : Int32 := if x - x / 8 * 8 = 0 then 1 else 0
def gh_f1 (o : gh_B) (i : Nat) : gh_B := if o 7 i = 0 then gh_st o 5 (upd (o 5) i (gh_m0 (o 5 i - 1))) else o
def gh_f2 (o : gh_B) (d : Int32) (i : Nat) : gh_B := if d = 0 then o else gh_st o 3 (upd (o 3) i (gh_m0 (o 3 i - 1)))
def gh_fd (d : Int32) (o : gh_B) : Nat → gh_B
  | 0 => o
  | i + 1 => gh_f2 (gh_f1 (gh_fd d o i) i) d i
def gh_be (o : gh_B) : gh_B := gh_st o 11 (fun _ => o 11 0 + 1)
/-- one beat -/
def gh_bt (z o : gh_B) (n nn : Nat) : gh_B := gh_be (gh_fd (gh_dr (gh_pn z (gh_fb o 4) n nn 11 0)) (gh_pn z (gh_fb o 4) n nn) n)
def gh_go (z o : gh_B) (n nn : Nat) : Nat → gh_B
  | 0 => o
  | i + 1 => gh_bt z (gh_go z o n nn i) n nn
def gh_tk (q o : gh_B) : Nat → gh_B
  | 0 => o
  | i + 1 => gh_st (gh_st (gh_st (gh_st (gh_st (gh_st (gh_tk q o i) 1 (upd (gh_tk q o i 1) i (q 1 i))) 2 (upd (gh_tk q o i 2) i (q 2 i))) 3 (upd (gh_tk q o i 3) i (q 3 i))) 4 (upd (gh_tk q o i 4) i (vp_nar .boolean (q 4 i)))) 5 (upd (gh_tk q o i 5) i (q 5 i))) 6 (upd (gh_tk q o i 6) i (q 6 i))
def gh_ta (q o : gh_B) : Nat → gh_B
  | 0 => o
  | i + 1 => gh_st (gh_st (gh_ta q o i) 8 (upd (gh_ta q o i 8) i (q 8 i))) 9 (upd (gh_ta q o i 9) i (q 9 i))
def gh_tc (q o : gh_B) : gh_B := gh_st (gh_st (gh_st (gh_st (gh_st o 10 (fun _ => q 10 0)) 11 (fun _ => q 11 0)) 12 (fun _ => q 12 0)) 13 (fun _ => q 13 0)) 14 (fun _ => q 14 0)
def gh_to (q o : gh_B) (n : Nat) : gh_B := gh_tc q (gh_ta q (gh_tk q o n) 4)
def gh_ad (o : gh_B) (n : Nat) (r s d : Int32) : gh_B := if nI n < 16 then gh_st (gh_st (gh_st (gh_st o 1 (upd (o 1) n r)) 2 (upd (o 2) n s)) 3 (upd (o 3) n d)) 10 (fun _ => nI (n + 1)) else o
def gh_tu (o : gh_B) (k : Nat) (t : Int32) : gh_B := if gh_cb o k t = 0 then o else gh_st o 3 (upd (o 3) k (gh_fw o k t))
def gh_sp (o : gh_B) (r v : Int32) : gh_B := if gh_iw r 0 3 = 0 then o else gh_st o 9 (upd (o 9) r.toNatClampNeg v)
def gh_wr (z : gh_B) (nn : Nat) (b t f : Int32) : gh_B := if nI nn < 32 then gh_st (gh_st (gh_st (gh_st z 0 (upd (z 0) nn b)) 1 (upd (z 1) nn t)) 2 (upd (z 2) nn f)) 3 (fun _ => nI (nn + 1)) else z
def gh_mv (z : gh_B) (i : Nat) : gh_B := gh_st (gh_st (gh_st z 0 (upd (z 0) i (z 0 (i + 1)))) 1 (upd (z 1) i (z 1 (i + 1)))) 2 (upd (z 2) i (z 2 (i + 1)))
def gh_sh (z : gh_B) (k : Nat) : Nat → gh_B
  | 0 => z
  | i + 1 => if i < k then z else gh_mv (gh_sh z k i) i
theorem gh_sh_k (z : gh_B) (k : Nat) : gh_sh z k k = z := by
  cases k with
  | zero => rfl
  | succ k => rw [gh_sh, if_pos (Nat.lt_succ_self k)]
theorem gh_sh_s (z : gh_B) {k i : Nat} (h : k ≤ i) : gh_sh z k (i + 1) = gh_mv (gh_sh z k i) i := by rw [gh_sh, if_neg (Nat.not_lt.mpr h)]
theorem gh_lt_n {n m : Nat} {x : Int32} (h : nI n < x) (hx : x = nI m) (hn : n < 2 ^ 31) (hm : m < 2 ^ 31) : n < m := by
  rw [hx] at h; exact (nI_ltI hn hm).mp h
theorem gh_ns_p {z o B : gh_B} {n i k : Nat} {p : Int32} (EB : B = gh_ns z o n p i) (h1 : z 0 i = p) (h2 : ¬ gh_rg (gh_pf B (z 1 i) (z 2 i) n).1 (B 10 0) = 0) (hk : (gh_pf B (z 1 i) (z 2 i) n).1 = nI k) (hk2 : k < 2 ^ 31) : gh_rub B k (z 1 i) (z 2 i) = gh_ns z o n p (i + 1) := by
  rw [gh_ns, if_pos h1, ← EB, gh_nt, if_neg h2, hk, nI_clamp hk2]
theorem gh_ha_in {o : gh_B} {r f : Int32} (h : ¬ gh_ha o r f = 0) : vp_in r 4 := by
  refine gh_iw_in (fun q => h ?_)
  rw [gh_ha, if_pos q]
theorem gh_fb_10 (o : gh_B) : ∀ i, gh_fb o i 10 = o 10
  | 0 => rfl
  | i + 1 => (gh_sn _ _ (by decide)).trans (gh_fb_10 o i)
theorem gh_r1_10 (o : gh_B) (k : Nat) (t : Int32) : gh_r1 o k t 10 = o 10 := by unfold gh_r1; split <;> rfl
theorem gh_r2_10 (o : gh_B) (k : Nat) (f : Int32) : gh_r2 o k f 10 = o 10 := by unfold gh_r2; split <;> rfl
theorem gh_r3_10 (o : gh_B) (k : Nat) (f : Int32) : gh_r3 o k f 10 = o 10 := rfl
theorem gh_r4_10 (o : gh_B) (k : Nat) (f : Int32) : gh_r4 o k f 10 = o 10 := by unfold gh_r4; split <;> rfl
theorem gh_rub_10 (o : gh_B) (k : Nat) (t f : Int32) : gh_rub o k t f 10 = o 10 := by
  rw [gh_rub, gh_r4_10, gh_r2_10, gh_r1_10]
theorem gh_nb_10 (o : gh_B) : ∀ i, gh_nb o i 10 = o 10
  | 0 => rfl
  | i + 1 => (gh_sn _ _ (by decide)).trans (gh_nb_10 o i)
theorem gh_nt_10 (z o : gh_B) (n i : Nat) : gh_nt z o n i 10 = o 10 := by
  unfold gh_nt; split
  · rfl
  · exact gh_rub_10 _ _ _ _
theorem gh_ns_10 (z o : gh_B) (n : Nat) (p : Int32) : ∀ i, gh_ns z o n p i 10 = o 10
  | 0 => rfl
  | i + 1 => by
    rw [gh_ns]; split
    · rw [gh_nt_10]; exact gh_ns_10 z o n p i
    · exact gh_ns_10 z o n p i
theorem gh_pn_10 (z o : gh_B) (n nn : Nat) : gh_pn z o n nn 10 = o 10 := by rw [gh_pn, gh_ns_10, gh_nb_10]
theorem gh_f1_10 (o : gh_B) (i : Nat) : gh_f1 o i 10 = o 10 := by unfold gh_f1; split <;> rfl
theorem gh_f2_10 (o : gh_B) (d : Int32) (i : Nat) : gh_f2 o d i 10 = o 10 := by unfold gh_f2; split <;> rfl
theorem gh_fd_10 (d : Int32) (o : gh_B) : ∀ i, gh_fd d o i 10 = o 10
  | 0 => rfl
  | i + 1 => by rw [gh_fd, gh_f2_10, gh_f1_10]; exact gh_fd_10 d o i
theorem gh_be_10 (o : gh_B) : gh_be o 10 = o 10 := rfl
theorem gh_bt_10 (z o : gh_B) (n nn : Nat) : gh_bt z o n nn 10 = o 10 := by rw [gh_bt, gh_be_10, gh_fd_10, gh_pn_10, gh_fb_10]
theorem gh_go_10 (z o : gh_B) (n nn : Nat) : ∀ i, gh_go z o n nn i 10 = o 10
  | 0 => rfl
  | i + 1 => by rw [gh_go, gh_bt_10]; exact gh_go_10 z o n nn i
