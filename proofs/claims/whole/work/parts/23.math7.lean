theorem gh_tu_10 (o : gh_B) (k : Nat) (t : Int32) : gh_tu o k t 10 = o 10 := by unfold gh_tu; split <;> rfl
theorem gh_sp_10 (o : gh_B) (r v : Int32) : gh_sp o r v 10 = o 10 := by unfold gh_sp; split <;> rfl
theorem gh_to_10 (q o : gh_B) (n : Nat) : gh_to q o n 10 0 = q 10 0 := rfl
def gc_fs (o T : gh_B) (n : Nat) : Nat → Int32
  | 0 => T 12 0 - o 12 0
  | 1 => T 13 0 - o 13 0
  | 2 => T 14 0 - o 14 0
  | _ => gh_cn (T 4) n
def gc_av (cb f : Nat → Int32) (f0 : Int32) : Nat → Int32 × Int32
  | 0 => (f0, -1)
  | i + 1 => if cb i = 0 then gc_av cb f f0 i else if f i ≤ (gc_av cb f f0 i).1 then gc_av cb f f0 i else (f i, nI i)
theorem gx_nle {x y : Int32} (h : x < y) : ¬ y ≤ x := fun h2 => absurd (Int32.lt_iff_toInt_lt.mp h) (by have := Int32.le_iff_toInt_le.mp h2; omega)
theorem gx_le {x y : Int32} (h : ¬ x < y) : y ≤ x := Int32.le_iff_toInt_le.mpr (by
  have h2 : ¬ x.toInt < y.toInt := fun q => h (Int32.lt_iff_toInt_lt.mpr q)
  omega)
def gc_dg (o z : gh_B) (n nn : Nat) : Int64 := gd_2 (fun k => gc_wr z k) 3 (gd_2 (fun k => gc_rw o n (nI k)) 3 (gd_2 (fun k => gc_gl o n k) 8 (gd_1 (gc_cl o z n) 829 9 * 31 + (z 4 0).toInt64) n) 4) nn
theorem gh_iw_1 {i b : Nat} {hi : Int32} (h : i ≤ b) (hh : hi = nI b) (hb : b < 2 ^ 31) : gh_iw (nI i) 0 hi = 1 := by
  rw [gh_iw, if_neg (nI_pos (by omega)), hh, if_neg (nI_nlt h hb)]
theorem gx_no1 {a : Int32} {x y : String} (h : a = 1) : ¬ (x = y ∧ gc_k1 a = 1) := by rw [h]; intro q; exact absurd q.2 (by decide)
theorem gx_no2 {a b : Int32} {x y : String} (h : a = 1) (h2 : b = 1) : ¬ (x = y ∧ gc_k2 a b = 1) := by rw [h, h2]; intro q; exact absurd q.2 (by decide)
/-- a call of a method that may throw, where it does not; it leaves the world as it was -/
theorem gx_ci {p : Program} {l : Launch} {e : Env} {R : Room} {s : State} {m : MethodId} {args : Array Value} {below : List Frame} {meth : Method} {c : Code} {H : Heap} {locs : List Loc} {cells slots : Nat} {Q : State → Prop}
    {pc : Nat} {ls : Array Slot} {rest st0 : List Value} {a : Array Value} {A0 : Nat → Prop} {H0 : Heap} {mc ms : Nat} {G : gh_G} {v : Int32} {cd : Prop} {Cd : String → Prop} {ws wc wr : va_W}
    (hr : vx_Run p l e R s m args below meth c H locs cells slots mc ms (F0 m pc ls st0) rest (va_Qi (fun (r : Int32) (_ : Unit) => r = v ∧ cd) (fun _ t => va_P G.1 vwCl wc t.heap) (va_A wc H.size) a) (vx_X (fun _ : Unit => True) (fun E _ t => Cd E ∧ va_P G.1 vwCl wc t.heap) (va_A wc H.size)) (va_A wc H.size))
    (hno : ∀ E, ¬ Cd E) (hP : va_P G.1 vwCl ws H) (hD : va_D A0 ws) (hS : va_S A0 H0 H locs) (hA : ∀ q, H0.size ≤ q → A0 q)
    (isC isR pm : List Nat) (hC : isC.map (fun i => ws[i]?) = wc.map some) (hR : isR.map (fun i => ws[i]?) = wr.map some) (hn : va_nd isR = true) (hnc : va_nd isC = true) (hdis : ∀ i ∈ isR, i ∉ isC) (hpm : pm.filterMap (fun i => (wr ++ wc)[i]?) = ws)
    (kk : ∀ (H1 : Heap) (locs1 : List Loc), va_P G.1 vwCl ws H1 → va_D A0 ws → va_S A0 H0 H1 locs1 → W p l e R s m args below meth c H1 locs1 (cells + mc) (slots + ms) Q (F0 m (pc + 3) ls (.int v :: rest))) : W p l e R s m args below meth c H locs cells slots Q (F0 m pc ls st0) := by
  have hF := va_free (wc := wc) hD hS hA isC hC
  refine vx_calli hr hS (fun q _ h => hF q h) hF (fun q _ h => hF q h) (fun E ce q9 u t H1 locs1 ht hvm hw hB hz1 hk1 hS1 hc1 hc2 hc3 => absurd hB.1 (hno E)) (fun r u t H1 locs1 ht hvm hw hB hz1 hk1 hS1 => ?_)
  obtain ⟨rfl, -⟩ := hw
  rw [ht] at hB
  obtain ⟨hP', hD'⟩ := gh_join hP hD isC isR pm hC hR hn hnc hdis hk1 hF hB _ _ rfl rfl hpm rfl rfl
  exact kk H1 locs1 hP' hD' hS1
