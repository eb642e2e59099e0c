/-! the law's loop -/
theorem gl_m31 (x : Int32) : ∃ j : Nat, j < 32 ∧ x &&& 31 = nI j := by
  refine ⟨(x &&& 31).toBitVec.toNat, ?_, ?_⟩
  · rw [Int32.toBitVec_and, BitVec.toNat_and]
    exact Nat.lt_of_le_of_lt Nat.and_le_right (by decide)
  · apply Int32.toBitVec_inj.mp
    show (x &&& 31).toBitVec = BitVec.ofNat 32 (x &&& 31).toBitVec.toNat
    rw [BitVec.ofNat_toNat, BitVec.setWidth_eq]
theorem gl_lt {L k : Nat} (hL : L ≤ 2048) (hk : k ≤ 4096) (h : ¬ Int32.ofNat L - 4 < nI k) : k + 4 ≤ L := by
  have e1 : (Int32.ofNat L - 4 : Int32).toInt = (L : Int) - 4 := by
    rw [Int32.toInt_sub, show (Int32.ofNat L).toInt = (L : Int) from nI_toInt (by omega), show (4 : Int32).toInt = 4 by decide, Int.bmod_eq_of_le (by omega) (by omega)]
  rw [Int32.lt_iff_toInt_lt, e1, nI_toInt (by omega)] at h
  omega
theorem gl_inc (i : Nat) : nI (4 * i) + Int32.ofInt 4 = nI (4 * (i + 1)) := by
  rw [show (Int32.ofInt 4 : Int32) = nI 4 by decide, nI_add]
  rfl
set_option maxHeartbeats 4000000 in
set_option maxRecDepth 100000 in
theorem gl_loop {p : Program} {l : Launch} {e : Env} {s : State} {m : MethodId} {below : List Frame} {meth : Method} {c : Code} {b0 L : Nat} {xs : Nat → Int32} {G : gh_G} {h : Nat} {a d b x ta td : Nat → Nat} {ja : Nat}
    (hfl : l.stackTraces = false) (hx : p.tables.exec = Jvm.exec) (hb : c.code = cL_law) (hml : c.maxLocals = 9) (hr : meth.sig.returnType = ret) (hlocks : meth.locks = false) (hown : s.vm.findClass RL = some m.cls) (hts : ∀ w9 ∈ wsL_law, w9.before #[Value.ref b0] s = true) (hE : gh_E G s) (hV : gx_V s) (hX : va_X b0 L xs s s.heap) (hbl : b0 < s.heap.size) (hZ : gx_Z (fun q9 => s.heap.size ≤ q9) s s.heap) (hL : L ≤ 2048) :
    ∀ (N i : Nat), L ≤ 4 * i + N → 4 * i ≤ L → ∀ (d0 : Drawn), s.drawn.sameBut d0 lw_cs → ∀ (H : Heap) (locs : List Loc) (cells slots : Nat) (ls : Array Slot) (o q z r t w : gh_B) (jo : Nat → Int64) (n nn : Nat), gs_W n nn o z t r → va_P G.1 vwCl (wLaw G h a d b x ta td ja o q z r t w jo) H → va_D (fun q9 => s.heap.size ≤ q9) (wLaw G h a d b x ta td ja o q z r t w jo) → va_S (fun q9 => s.heap.size ≤ q9) s.heap H locs → cells ≤ 100 + 400 * i → slots ≤ 1000 + 3000 * i → lv_has ls 9 [(4, .int (nI (4 * i))), (0, .ref b0), (1, .ref h), (2, .ref (x 0)), (3, .ref ja)] →
    W p l e room_1 (s.setDrawn d0) m #[Value.ref b0] below meth c H locs cells slots (lw_Z below #[Value.ref b0] s) (F0 m 23 ls []) := by
  intro N
  induction N with
  | zero => 
    intro i h1 h2 d0 hd0 H locs cells slots ls o q z r t w jo n nn hW hP hD hS hc hs hl
    have hX0 : va_X b0 L xs (s.setDrawn d0) s.heap := hX.moved (Vm.Alike.refl _)
    have hA : ∀ q9 : Nat, s.heap.size ≤ q9 → (fun q9 : Nat => s.heap.size ≤ q9) q9 := fun _ h9 => h9
    have hbA : ¬ (fun q9 : Nat => s.heap.size ≤ q9) b0 := Nat.not_le.mpr hbl
    refine lv_iload hx hb dL_law_23 (lv_at hl 0 rfl) ?_
    refine lv_aload_n hx hb dL_law_25 rfl (lv_at hl 1 rfl) ?_
    refine va_slen hx hb hX0 hbl hbA hS dL_law_26 ?_
    refine lv_iconst (v := 4) hx hb dL_law_27 (by decide) ?_
    refine lv_isub hx hb dL_law_28 ?_
    refine lv_icmp_gt (tgt := 1177) hx hb dL_law_29 (by decide) (fun _ => ?_) (fun h9 => absurd (gl_lt hL (by omega) h9) (by omega))
    refine lv_iconst (v := 1) hx hb dL_law_1177 (by decide) ?_
    refine va_forget (fun q9 h9 => hS.2.2 q9 h9) ?_
    refine W.widen (k := 601024) (n := 7293034) (by omega) (by omega) ?_
    exact lw_ret hd0 hx hb hr hlocks dL_law_1178
  | succ N ih =>
    intro i h1 h2 d0 hd0 H locs cells slots ls o q z r t w jo n nn hW hP hD hS hc hs hl
    have hX0 : va_X b0 L xs (s.setDrawn d0) s.heap := hX.moved (Vm.Alike.refl _)
    have hA : ∀ q9 : Nat, s.heap.size ≤ q9 → (fun q9 : Nat => s.heap.size ≤ q9) q9 := fun _ h9 => h9
    have hbA : ¬ (fun q9 : Nat => s.heap.size ≤ q9) b0 := Nat.not_le.mpr hbl
    have hE0 : gh_E G (s.setDrawn d0) := hE.same rfl
    have hV0 : gx_V (s.setDrawn d0) := hV.same rfl
    have hZ0 : gx_Z (fun q9 => s.heap.size ≤ q9) (s.setDrawn d0) s.heap := hZ.moved (Vm.Alike.refl _)
    have hts0 : ∀ w9 ∈ wsL_law, w9.before #[Value.ref b0] (s.setDrawn d0) = true := dr_words hts d0
    refine lv_iload hx hb dL_law_23 (lv_at hl 0 rfl) ?_
    refine lv_aload_n hx hb dL_law_25 rfl (lv_at hl 1 rfl) ?_
    refine va_slen hx hb hX0 hbl hbA hS dL_law_26 ?_
    refine lv_iconst (v := 4) hx hb dL_law_27 (by decide) ?_
    refine lv_isub hx hb dL_law_28 ?_
    refine lv_icmp_gt (tgt := 1177) hx hb dL_law_29 (by decide) (fun _ => ?_) (fun h9 => ?_)
    · refine lv_iconst (v := 1) hx hb dL_law_1177 (by decide) ?_
      refine va_forget (fun q9 h9 => hS.2.2 q9 h9) ?_
      refine W.widen (k := 601024) (n := 7293034) (by omega) (by omega) ?_
      exact lw_ret hd0 hx hb hr hlocks dL_law_1178
    have hk : 4 * i + 4 ≤ L := gl_lt hL (by omega) h9
    have rc : room_1.cells = 601024 := rfl
    have rs : room_1.slots = 7293034 := rfl
    have hc4 : cells + 400 ≤ room_1.cells := by rw [rc]; omega
    have hs4 : slots + 3000 ≤ room_1.slots := by rw [rs]; omega
    have kk : ∀ d1 : Drawn, s.drawn.sameBut d1 lw_cs → gl_N p l e (s.setDrawn d1) m #[Value.ref b0] below meth c (lw_Z below #[Value.ref b0] s) (fun q9 => s.heap.size ≤ q9) s.heap G b0 h a d b x ta td ja (4 * i) cells slots := by
      intro d1 hd1 ls1 H1 locs1 o1 q1 z1 r1 t1 w1 jo1 n1 nn1 hW1 hP1 hD1 hS1 hl1
      refine lv_iinc (k := 0) (v := nI (4 * (i + 1))) (lv' := [(4, .int (nI (4 * (i + 1)))), (0, .ref b0), (1, .ref h), (2, .ref (x 0)), (3, .ref ja)]) hx hb dL_law_1171 hl1 rfl (gl_inc i) (by decide) rfl (fun ls2 hl2 => ?_)
      refine lv_goto (tgt := 23) hx hb dL_law_1174 (by decide) ?_
      exact ih (i + 1) (by omega) (by omega) d1 hd1 H1 locs1 _ _ ls2 o1 q1 z1 r1 t1 w1 jo1 n1 nn1 hW1 hP1 hD1 hS1 (by omega) (by omega) hl2
    refine lv_aload_n hx hb dL_law_32 rfl (lv_at hl 1 rfl) ?_
    refine lv_iload hx hb dL_law_33 (lv_at hl 0 rfl) ?_
    refine va_sld hx hb hX0 hbl hbA hS (vp_in_nI (show 4 * i < L by omega) (by omega)) dL_law_35 ?_
    refine lv_bipush (v := 31) hx hb dL_law_36 (by decide) ?_
    refine lv_iand hx hb dL_law_38 ?_
    obtain ⟨j, hj, ej⟩ := gl_m31 (xs (nI (4 * i)).toNatClampNeg)
    rw [ej]
    clear ej
    match j, hj with
    | 0, _ => exact lv_tableIn (off := 81) (tgt := 120) hx hb dL_law_39 (by decide +kernel) (by decide +kernel) (by decide +kernel) (by decide) (gl_c_set hfl hx hb hml hown hts0 hE0 hV0 hA hX0 hbl hbA hZ0 hW hP hD hS hk hL hc4 hs4 hl (kk d0 hd0))
    | 1, _ => exact lv_tableIn (off := 161) (tgt := 200) hx hb dL_law_39 (by decide +kernel) (by decide +kernel) (by decide +kernel) (by decide) (gl_c_drop hfl hx hb hml hown hts0 hE0 hV0 hA hX0 hbl hbA hZ0 hW hP hD hS hk hL hc4 hs4 hl (kk d0 hd0))
    | 2, _ => exact lv_tableIn (off := 229) (tgt := 268) hx hb dL_law_39 (by decide +kernel) (by decide +kernel) (by decide +kernel) (by decide) (gl_c_pump hfl hx hb hml hown hts0 hE0 hV0 hA hX0 hbl hbA hZ0 hW hP hD hS hk hL hc4 hs4 hl (kk d0 hd0))
    | 3, _ => exact lv_tableIn (off := 297) (tgt := 336) hx hb dL_law_39 (by decide +kernel) (by decide +kernel) (by decide +kernel) (by decide) (gl_c_glass hfl hx hb hml hown hts0 hE0 hV0 hA hX0 hbl hbA hZ0 hW hP hD hS hk hL hc4 hs4 hl (kk d0 hd0))
    | 4, _ => exact lv_tableIn (off := 365) (tgt := 404) hx hb dL_law_39 (by decide +kernel) (by decide +kernel) (by decide +kernel) (by decide) (gl_c_row hfl hx hb hml hown hts0 hE0 hV0 hA hX0 hbl hbA hZ0 hW hP hD hS hk hL hc4 hs4 hl (kk d0 hd0))
    | 5, _ => exact lv_tableIn (off := 433) (tgt := 472) hx hb dL_law_39 (by decide +kernel) (by decide +kernel) (by decide +kernel) (by decide) (gl_c_setLength hfl hx hb hml hown hts0 hE0 hV0 hA hX0 hbl hbA hZ0 hW hP hD hS hk hL hc4 hs4 hl (kk d0 hd0))
    | 6, _ => exact lv_tableIn (off := 489) (tgt := 528) hx hb dL_law_39 (by decide +kernel) (by decide +kernel) (by decide +kernel) (by decide) (gl_c_note hfl hx hb hml hown hts0 hE0 hV0 hA hX0 hbl hbA hZ0 hW hP hD hS hk hL hc4 hs4 hl (kk d0 hd0))
    | 7, _ => exact lv_tableIn (off := 569) (tgt := 608) hx hb dL_law_39 (by decide +kernel) (by decide +kernel) (by decide +kernel) (by decide) (gl_c_strike hfl hx hb hml hown hts0 hE0 hV0 hA hX0 hbl hbA hZ0 hW hP hD hS hk hL hc4 hs4 hl (kk d0 hd0))
    | 8, _ => exact lv_tableIn (off := 625) (tgt := 664) hx hb dL_law_39 (by decide +kernel) (by decide +kernel) (by decide +kernel) (by decide) (gl_c_written hfl hx hb hml hown hts0 hE0 hV0 hA hX0 hbl hbA hZ0 hW hP hD hS hk hL hc4 hs4 hl (kk d0 hd0))
    | 9, _ => exact lv_tableIn (off := 693) (tgt := 732) hx hb dL_law_39 (by decide +kernel) (by decide +kernel) (by decide +kernel) (by decide) (gl_c_play hfl hx hb hml hown hts0 hE0 hV0 hA hX0 hbl hbA hZ0 hW hP hD hS hk hL hc4 hs4 hl (kk d0 hd0))
    | 10, _ => exact lv_tableIn (off := 749) (tgt := 788) hx hb dL_law_39 (by decide +kernel) (by decide +kernel) (by decide +kernel) (by decide) (gl_c_count hfl hx hb hml hown hts0 hE0 hV0 hA hX0 hbl hbA hZ0 hW hP hD hS hk hL hc4 hs4 hl (kk d0 hd0))
    | 11, _ => exact lv_tableIn (off := 805) (tgt := 844) hx hb dL_law_39 (by decide +kernel) (by decide +kernel) (by decide +kernel) (by decide) (gl_c_needs hfl hx hb hml hown hts0 hE0 hV0 hA hX0 hbl hbA hZ0 hW hP hD hS hk hL hc4 hs4 hl (kk d0 hd0))
    | 12, _ => exact lv_tableIn (off := 873) (tgt := 912) hx hb dL_law_39 (by decide +kernel) (by decide +kernel) (by decide +kernel) (by decide) (gl_c_foresee hfl hx hb hml hown hts0 hE0 hV0 hA hX0 hbl hbA hZ0 hW hP hD hS hk hL hc4 hs4 hl (kk d0 hd0))
    | 13, _ => exact lv_tableIn (off := 941) (tgt := 980) hx hb dL_law_39 (by decide +kernel) (by decide +kernel) (by decide +kernel) (by decide) (gl_c_advise hfl hx hb hml hown hts0 hE0 hV0 hA hX0 hbl hbA hZ0 hW hP hD hS hk hL hc4 hs4 hl (kk d0 hd0))
    | 14, _ => exact lv_tableIn (off := 1009) (tgt := 1048) hx hb dL_law_39 (by decide +kernel) (by decide +kernel) (by decide +kernel) (by decide) (gl_c_wants hfl hx hb hml hown hts0 hE0 hV0 hA hX0 hbl hbA hZ0 hW hP hD hS hk hL hc4 hs4 hl (kk d0 hd0))
    | 15, _ => exact lv_tableIn (off := 1077) (tgt := 1116) hx hb dL_law_39 (by decide +kernel) (by decide +kernel) (by decide +kernel) (by decide) (gl_c_mean hfl hx hb hml hown hts hE hV hA hX hbl hbA hZ hd0 hW hP hD hS hk hL hc4 hs4 hl kk)
    | 16, _ => exact lv_tableIn (off := 1118) (tgt := 1157) hx hb dL_law_39 (by decide +kernel) (by decide +kernel) (by decide +kernel) (by decide) (gl_c_digest hfl hx hb hml hown hts0 hE0 hV0 hA hX0 hbl hbA hZ0 hW hP hD hS hk hL hc4 hs4 hl (kk d0 hd0))
    | j + 17, hj =>
      refine lv_tableOut (tgt := 1171) hx hb dL_law_39 (Or.inr (by rw [nI_toInt (by omega)]; omega)) (by decide) ?_
      exact W.widen (by omega) (by omega) (kk d0 hd0 _ _ _ _ _ _ _ _ _ _ _ _ hW hP hD hS hl)
