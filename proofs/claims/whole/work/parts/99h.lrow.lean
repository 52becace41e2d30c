/-! ===== the law's rows: the script ===== -/
def g_Scr (G : g_G) (X : g_X) (b L : Nat) (xs : Nat → Int32) : Prop := match X with
  | (_, _, _, _, s, _, _, _, _, _, _, _) => va_X b L xs s s.heap ∧ b < s.heap.size ∧ ¬ G.2.2.2 b
theorem s_sld {Y : g_Y} {G : g_G} {X : g_X} {I : g_I} {mc ms : Nat} {Q : g_R → g_Hp → Prop} {pc k n : Nat} {ls : List (Nat × g_AV)} {st : List g_AV} {h : g_Hp} {b L : Nat} {xs : Nat → Int32} {x : Int32} (hs : g_Scr G X b L xs) (hin : vp_in x L) (C0 : g_Cx Y G X I) (d : decode I.2.2.1 pc = .ok (.iaload, 1)) (K : g_V G X I mc ms Q (pc + 1) k n ls (vI (xs x.toNatClampNeg) :: st) h) : g_V G X I mc ms Q pc k n ls (vI x :: vV (.ref b) :: st) h := by
  obtain ⟨p, l, e, R, s0, m, args, below, meth, c, h0, ρ0⟩ := X
  intro ρ H locs la w
  exact va_sld C0.1 C0.2.1 hs.1 hs.2.1 hs.2.2 w.2.1 hin d (K ρ H locs la (g_P_push trivial (g_P_pop (g_P_pop w))))
theorem s_sln {Y : g_Y} {G : g_G} {X : g_X} {I : g_I} {mc ms : Nat} {Q : g_R → g_Hp → Prop} {pc k n : Nat} {ls : List (Nat × g_AV)} {st : List g_AV} {h : g_Hp} {b L : Nat} {xs : Nat → Int32} (hs : g_Scr G X b L xs) (C0 : g_Cx Y G X I) (d : decode I.2.2.1 pc = .ok (.arraylength, 1)) (K : g_V G X I mc ms Q (pc + 1) k n ls (vI (Int32.ofNat L) :: st) h) : g_V G X I mc ms Q pc k n ls (vV (.ref b) :: st) h := by
  obtain ⟨p, l, e, R, s0, m, args, below, meth, c, h0, ρ0⟩ := X
  intro ρ H locs la w
  exact va_slen C0.1 C0.2.1 hs.1 hs.2.1 hs.2.2 w.2.1 d (K ρ H locs la (g_P_push trivial (g_P_pop w)))
/-- an end that says more -/
theorem g_Wm {p : Program} {l : Launch} {e : Env} {R : Room} {s : State} {m : MethodId} {args : Array Value} {below : List Frame} {meth : Method} {c : Code} {H : Heap} {locs : List Loc} {cells slots : Nat} {Z Z' : State → Prop} {g : JFrame} (hZ : ∀ t, Z t → Z' t) (k : W p l e R s m args below meth c H locs cells slots Z g) : W p l e R s m args below meth c H locs cells slots Z' g := by
  intro T hT X
  obtain ⟨t, a1, z⟩ := k T hT X
  exact ⟨t, a1, hZ t z⟩
