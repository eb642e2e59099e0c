/-! rows and shapes for the law's walk -/
section GLK
variable {p : Program} {l : Launch} {e : Env} {R : Room} {s : State} {m : MethodId} {args : Array Value} {below : List Frame} {meth : Method} {c : Code} {H : Heap} {locs : List Loc} {cells slots : Nat} {Q : State → Prop}
variable {cc : ByteArray} {pc : Nat} {ls : Array Slot} {rest : List Value}
theorem gl_lcmp (hexec : p.tables.exec = Jvm.exec) (hb : c.code = cc) {x y : Int64} (hxy : x = y) (hdg : decode cc pc = .ok (.lcmp, 1))
    (k : W p l e R s m args below meth c H locs cells slots Q (F0 m (pc + 1) ls (.int 0 :: rest))) : W p l e R s m args below meth c H locs cells slots Q (F0 m pc ls (.long y :: .long x :: rest)) := by
  subst hxy
  intro T hT X
  obtain ⟨t, a, b⟩ := k T hT X
  refine ⟨t, ?_, b⟩
  jvm_step X.here [X.here.top, hexec, hb, hdg]
  simpa using a
end GLK
abbrev wLaw (G : gh_G) (h : Nat) (a d b x u f : Nat → Nat) (ja : Nat) (o q z r t p : gh_B) (jo : Nat → Int64) : va_W := (wH h (b 5) (a 0) (d 0)) ++ (wO G a (b 5) o) ++ (wO G d (b 5) q) ++ (wS G b z) ++ (wM G x (u 0) (f 0) r) ++ (wT G u (x 0) t) ++ (wT G f (x 0) p) ++ (wL G ja jo)
