/-! What every method may take as given of its start: the tables' classes, the two static rows, what an exception needs. -/
abbrev xg : Type := va_G × ClassId × ClassId × Nat × Nat × ClassId × Nat × (Nat → Nat) × (Nat → Nat) × Nat × Nat × (Nat → Int32)
abbrev gD (g : xg) : va_G := g.1
abbrev gI (g : xg) : ClassId := g.2.1
abbrev gC (g : xg) : ClassId := g.2.2.1
abbrev gT (g : xg) : Nat := g.2.2.2.1
abbrev gU (g : xg) : Nat := g.2.2.2.2.1
/-- bytes; Integer's row of digits; the law's two texts and their bytes; the script, its length, what it holds -/
abbrev gB (g : xg) : ClassId := g.2.2.2.2.2.1
abbrev gO (g : xg) : Nat := g.2.2.2.2.2.2.1
abbrev gK (g : xg) : Nat → Nat := g.2.2.2.2.2.2.2.1
abbrev gV (g : xg) : Nat → Nat := g.2.2.2.2.2.2.2.2.1
abbrev gS (g : xg) : Nat := g.2.2.2.2.2.2.2.2.2.1
abbrev gN (g : xg) : Nat := g.2.2.2.2.2.2.2.2.2.2.1
abbrev gX (g : xg) : Nat → Int32 := g.2.2.2.2.2.2.2.2.2.2.2
/-- what the two rows of the positions hold -/
def toSide (p : Int) : Int := if p = 1 ∨ p = 2 ∨ p = 3 then 1 else if p = 5 ∨ p = 6 ∨ p = 7 then -1 else 0
def upward (p : Int) : Int := if p = 0 ∨ p = 1 ∨ p = 7 then 1 else if p = 3 ∨ p = 4 ∨ p = 5 then -1 else 0
def xStr : List (Nat × String) := [(114, "the last ring is less than the first one"), (120, "too many houses"), (133, "the stack is full"), (144, "no such place"), (159, "the other stack is full"), (170, "all stacks are empty"), (176, "too much slurry for the tank"), (184, "no ground for the next ring"), (198, "there is a reason against it"), (201, "the clock would be too great"), (324, "no such character"), (331, "an argument is out of range"), (333, "no such stack"), (335, "no such position"), (337, "no ground for this ring"), (339, "no such ring has been laid"), (343, "the stack has too few rings"), (87, "ground for too many rings"), (98, "bends for too many rings")]
/-- the private constructors that another class of the nest calls -/
def xNest : List (String × Nat × MethodName) := [(RX8, 18, yX3_init), (RX8, 25, yX2_init), (RX8, 32, yX7_init), (RX8, 39, yX6_init), (RX8, 46, yX4_init), (RX8, 53, yX0_init), (RX8, 60, yX5_init), (RX8, 9, yX1_init), (RX4, 11, yX0_init), (RX6, 26, yX0_init)]
/-- the static rows as the classes inside read them -/
def xNestF : List (String × Nat × String) := [(RX0, 22, "TO_SIDE"), (RX0, 28, "UPWARD"), (RX4, 62, "TO_SIDE"), (RX4, 65, "UPWARD")]
/-- the exceptions that the class throws -/
def xExc : List String := ["java/lang/IllegalArgumentException", "java/lang/IllegalStateException", "java/lang/IndexOutOfBoundsException", "java/util/NoSuchElementException", "java/lang/ArithmeticException", "java/lang/UnsupportedOperationException"]
def xDecl : List String := ["java/lang/RuntimeException", "java/lang/Exception", "java/lang/Throwable"]
/-- the pairs of exceptions of which the first is none of the second -/
def xPairs : List (String × String) := (xExc.flatMap fun a => xExc.map fun b => (a, b)).filter fun q => q.1 != q.2
abbrev xTys (g : xg) : List (ClassId × FieldType) := [(gI g, .int), (gC g, .char), (gB g, .byte)]
/-- what the law's own methods need besides -/
def xD (g : xg) (A : Nat → Prop) (U : State) (H : Heap) : Prop :=
  va_Z "java/lang/String" "COMPACT_STRINGS" "Z" (.int 1) A U H ∧ (va_Z "java/lang/Integer" "DigitOnes" "[B" (.ref (gO g)) A U H ∧ va_T .byte (gO g) 100 (fun j => .int (iI (48 + (j : Int) % 10))) A U H) ∧ vk_S 2 [0, 1] [[], [32]] (gK g) (gV g) A U H ∧ (vk_R RL 254 "" (gK g 0) U ∧ vk_R RL 256 " " (gK g 1) U) ∧ va_T .int (gS g) (gN g) (fun j => .int (gX g j)) A U H ∧ (∀ q ∈ xPairs, va_Nc q.1 q.2 U) ∧ U.vm.findClass "[B" = some (gB g) ∧ va_Zq "jdk/internal/util/Preconditions" "SIOOBE_FORMATTER" "Ljava/util/function/BiFunction;" A U H
theorem xD.warm {g : xg} {A : Nat → Prop} {u U : State} {H : Heap} (hW : u.WarmedH U.vm) (h : xD g A u H) : xD g A U H := by
  obtain ⟨h1, h2, h3, h4, h5, h6, h7, h8⟩ := h
  have hvm := hW.alike
  exact ⟨va_Z.moved hvm h1, ⟨va_Z.moved hvm h2.1, va_T.moved hvm h2.2⟩, vk_S.moved hvm h3, ⟨h4.1.warm hW, h4.2.warm hW⟩, va_T.moved hvm h5, fun q hq => va_Nc.moved hvm (h6 q hq), (hvm.findClass "[B" none).trans h7, va_Zq.moved hvm h8⟩
theorem xD.same {g : xg} {A : Nat → Prop} {u U : State} {H : Heap} (he : U.vm = u.vm) (h : xD g A u H) : xD g A U H := by
  obtain ⟨h1, h2, h3, h4, h5, h6, h7, h8⟩ := h
  have hvm : u.vm.Alike U.vm := by rw [he]; exact Vm.Alike.refl u.vm
  exact ⟨va_Z.moved hvm h1, ⟨va_Z.moved hvm h2.1, va_T.moved hvm h2.2⟩, vk_S.moved hvm h3, ⟨h4.1.same he, h4.2.same he⟩, va_T.moved hvm h5, fun q hq => va_Nc.moved hvm (h6 q hq), by rw [he]; exact h7, va_Zq.moved hvm h8⟩
theorem xD.kept {g : xg} {A : Nat → Prop} {U : State} {H H1 : Heap} (h : xD g A U H) (hq : ∀ a : Nat, a < H.size → ¬ A a → H1[a]? = H[a]?) : xD g A U H1 := by
  obtain ⟨h1, h2, h3, h4, h5, h6, h7, h8⟩ := h
  exact ⟨va_Z.kept h1 hq, ⟨va_Z.kept h2.1 hq, va_T.kept h2.2 hq⟩, vk_S.kept h3 hq, h4, va_T.kept h5 hq, h6, h7, va_Zq.kept h8 hq⟩
theorem xD.narrow {g : xg} {A B : Nat → Prop} {U : State} {H : Heap} (h : xD g A U H) (hAB : ∀ q, B q → A q) : xD g B U H := by
  obtain ⟨h1, h2, h3, h4, h5, h6, h7, h8⟩ := h
  exact ⟨va_Z.narrow h1 hAB, ⟨va_Z.narrow h2.1 hAB, va_T.narrow h2.2 hAB⟩, vk_S.narrow h3 hAB, h4, va_T.narrow h5 hAB, h6, h7, va_Zq.narrow h8 hAB⟩
def xC (g : xg) (A : Nat → Prop) (U : State) (H : Heap) : Prop :=
  va_K (gD g) vwCl (xTys g) U ∧ (va_Z "TunnelRing" "TO_SIDE" "[I" (.ref (gT g)) A U H ∧ va_T .int (gT g) 8 (fun j => .int (ar toSide j)) A U H) ∧ (va_Z "TunnelRing" "UPWARD" "[I" (.ref (gU g)) A U H ∧ va_T .int (gU g) 8 (fun j => .int (ar upward j)) A U H) ∧
  vx_Zq Bundle.tN "UNASSIGNED_STACK" Bundle.steD A U H ∧ vx_Zq Bundle.tN "SUPPRESSED_SENTINEL" Bundle.listD A U H ∧ (∀ q ∈ xStr, ∃ sa : Nat, vk_R RX8 q.1 q.2 sa U) ∧ (∀ q ∈ xNest, va_Nw (.methodLinkNest q.1 q.2.1 q.2.2 RX8) U) ∧ (∀ q ∈ xNestF, va_Nw (.fieldLinkNest q.1 q.2.1 "TunnelRing" q.2.2 "[I" "TunnelRing") U) ∧ U.vm.findClass "[I" = some (gI g) ∧ U.vm.findClass "[C" = some (gC g) ∧ (∀ X ∈ xExc, va_Nw (.castable X X) U) ∧ (∀ X ∈ xDecl, va_Nw (.declares (Bundle.initS X)) U) ∧ xD g A U H
theorem xC.warm {g : xg} {A : Nat → Prop} {u U : State} {H : Heap} (hW : u.WarmedH U.vm) (h : xC g A u H) : xC g A U H := by
  obtain ⟨h1, h2, h3, h4, h5, h6, h7, h7f, h8, h9, h10, h11, hd⟩ := h
  have hvm := hW.alike
  refine ⟨va_K.moved hvm h1, ⟨va_Z.moved hvm h2.1, va_T.moved hvm h2.2⟩, ⟨va_Z.moved hvm h3.1, va_T.moved hvm h3.2⟩, vx_Zq.moved hvm h4, vx_Zq.moved hvm h5, fun q hq => ?_, fun q hq => va_Nw.warmM hW (h7 q hq), fun q hq => va_Nw.warmF hW (h7f q hq), ?_, ?_, fun X hX => va_Nw.warmC hW (h10 X hX), fun X hX => va_Nw.warmD hW (h11 X hX), xD.warm hW hd⟩
  · obtain ⟨sa, hs⟩ := h6 q hq
    exact ⟨sa, hs.warm hW⟩
  · exact (hvm.findClass "[I" none).trans h8
  · exact (hvm.findClass "[C" none).trans h9
theorem xC.same {g : xg} {A : Nat → Prop} {u U : State} {H : Heap} (he : U.vm = u.vm) (h : xC g A u H) : xC g A U H := by
  obtain ⟨h1, h2, h3, h4, h5, h6, h7, h7f, h8, h9, h10, h11, hd⟩ := h
  have hvm : u.vm.Alike U.vm := by rw [he]; exact Vm.Alike.refl u.vm
  refine ⟨va_K.moved hvm h1, ⟨va_Z.moved hvm h2.1, va_T.moved hvm h2.2⟩, ⟨va_Z.moved hvm h3.1, va_T.moved hvm h3.2⟩, vx_Zq.moved hvm h4, vx_Zq.moved hvm h5, fun q hq => ?_, fun q hq => va_Nw.same rfl he.symm (h7 q hq), fun q hq => va_Nw.same rfl he.symm (h7f q hq), ?_, ?_, fun X hX => va_Nw.same rfl he.symm (h10 X hX), fun X hX => va_Nw.same rfl he.symm (h11 X hX), xD.same he hd⟩
  · obtain ⟨sa, hs⟩ := h6 q hq
    exact ⟨sa, hs.same he⟩
  · rw [he]; exact h8
  · rw [he]; exact h9
theorem xC.kept {g : xg} {A : Nat → Prop} {U : State} {H H1 : Heap} (h : xC g A U H) (hq : ∀ a : Nat, a < H.size → ¬ A a → H1[a]? = H[a]?) : xC g A U H1 := by
  obtain ⟨h1, h2, h3, h4, h5, h6, h7, h7f, h8, h9, h10, h11, hd⟩ := h
  exact ⟨h1, ⟨va_Z.kept h2.1 hq, va_T.kept h2.2 hq⟩, ⟨va_Z.kept h3.1 hq, va_T.kept h3.2 hq⟩, vx_Zq.kept h4 hq, vx_Zq.kept h5 hq, h6, h7, h7f, h8, h9, h10, h11, xD.kept hd hq⟩
theorem xC.narrow {g : xg} {A B : Nat → Prop} {U : State} {H : Heap} (h : xC g A U H) (hAB : ∀ q, B q → A q) : xC g B U H := by
  obtain ⟨h1, h2, h3, h4, h5, h6, h7, h7f, h8, h9, h10, h11, hd⟩ := h
  exact ⟨h1, ⟨va_Z.narrow h2.1 hAB, va_T.narrow h2.2 hAB⟩, ⟨va_Z.narrow h3.1 hAB, va_T.narrow h3.2 hAB⟩, vx_Zq.narrow h4 hAB, vx_Zq.narrow h5 hAB, h6, h7, h7f, h8, h9, h10, h11, xD.narrow hd hAB⟩
/-- a method's start, its end -/
def xB (g : xg) (ws : va_W) (sz : Nat) (U : State) : Prop := U.heap.size = sz ∧ va_P (gD g) vwCl ws U.heap ∧ va_D (fun _ => True) ws ∧ xC g (va_A ws sz) U U.heap
def xE (g : xg) (A : Nat → Prop) (ws : va_W) (t : State) : Prop := va_P (gD g) vwCl ws t.heap ∧ va_D A ws
theorem xB_blind {g : xg} {ws : va_W} {sz : Nat} {av : List Value} : FrameBlind (va_Pc av (xB g ws sz)) := by
  intro a U f mk h
  obtain ⟨h0, h1, h2, h3, h4⟩ := h
  exact ⟨h0, h1, h2, h3, xC.same (u := U) (U := U.calling f mk a) rfl h4⟩
theorem x_fm {ws wc : va_W} : ∀ (isC : List Nat), isC.map (fun i => ws[i]?) = wc.map some → isC.filterMap (fun i => ws[i]?) = wc := by
  intro isC
  induction isC generalizing wc with
  | nil => intro h; cases wc with
    | nil => rfl
    | cons a t => simp at h
  | cons i t ih =>
    intro h
    cases wc with
    | nil => simp at h
    | cons a t2 =>
      simp only [List.map_cons, List.cons.injEq] at h
      rw [List.filterMap_cons, h.1]
      exact congrArg (a :: ·) (ih h.2)
section XC
variable {p : Program} {l : Launch} {e : Env} {R : Room} {s : State} {m : MethodId} {args : Array Value} {below : List Frame} {meth : Method} {c : Code} {H : Heap} {locs : List Loc} {cells slots : Nat} {Q : State → Prop}
variable {cc : ByteArray} {pc : Nat} {ls : Array Slot} {rest st0 : List Value} {g : xg} {A : Nat → Prop} {ws wc wr : va_W} {mc ms : Nat}
/-- ahead of a call: the callee's part of the world -/
theorem x_pre (hC : xC g A s s.heap) (hP : va_P (gD g) vwCl ws H) (hD : va_D A ws) (hS : va_S A s.heap H locs) (hA : ∀ q : Nat, s.heap.size ≤ q → A q) (isC : List Nat) (hc : isC.map (fun i => ws[i]?) = wc.map some) (hn : va_nd isC = true) (av : List Value) :
    ∀ U : State, U.heap = H → s.WarmedH U.vm → va_Pc av (xB g wc H.size) av.toArray U := by
  intro U hU hW
  have hF := va_free (wc := wc) hD hS hA isC hc
  refine ⟨rfl, by rw [hU], by rw [hU]; exact hP.sub isC (x_fm isC hc), (hD.sub isC hn hc).weaken (fun _ _ _ _ => trivial), ?_⟩
  rw [hU]
  exact xC.warm hW ((hC.kept (fun a h1 h2 => hS.2.1 a h1 h2)).narrow hF)
/-- behind a call: the callee's part put back -/
theorem x_post (hP : va_P (gD g) vwCl ws H) (hD : va_D A ws) (hS : va_S A s.heap H locs) (hA : ∀ q : Nat, s.heap.size ≤ q → A q) {H1 : Heap} (isC isR pe : List Nat) (hc : isC.map (fun i => ws[i]?) = wc.map some) (hr : isR.map (fun i => ws[i]?) = wr.map some) (hn : va_nd isR = true) (hdis : ∀ i ∈ isR, i ∉ isC)
    {w1 w2 : va_W} {t : State} (ht : t.heap = H1) (hE : xE g (va_A wc H.size) w1 t) (hk : ∀ q : Nat, q < H.size → ¬ va_A wc H.size q → H1[q]? = H[q]?) (h2 : pe.map (fun i => (wr ++ w1)[i]?) = w2.map some) (hpn : va_nd pe = true) : va_P (gD g) vwCl w2 H1 ∧ va_D A w2 := by
  obtain ⟨hP1, hD1⟩ := hE
  rw [ht] at hP1
  have hF := va_free (wc := wc) hD hS hA isC hc
  obtain ⟨a, b⟩ := va_join (wr := wr) (w1 := w1) hP hD isC isR hc hr hn hdis hk hF hP1 hD1
  exact ⟨a.sub pe (x_fm pe h2), b.sub pe hpn h2⟩
/-- calls that don't throw: an int, nothing -/
theorem x_calli {S : Type} {val : S → Int} {Φ : S → Prop} {W1 : S → va_W} {a : Array Value} (hC : xC g A s s.heap) (hP : va_P (gD g) vwCl ws H) (hD : va_D A ws) (hS : va_S A s.heap H locs) (hA : ∀ q : Nat, s.heap.size ≤ q → A q)
    (isC isR pe : List Nat) (hc : isC.map (fun i => ws[i]?) = wc.map some) (hn : va_nd isC = true)
    (hrun : (∀ av : List Value, ∀ U : State, U.heap = H → s.WarmedH U.vm → va_Pc av (xB g wc H.size) av.toArray U) → va_Run p l e R s m args below meth c H locs cells slots mc ms (F0 m pc ls st0) rest (va_Qi (fun r u => r = iI (val u) ∧ Φ u) (fun u t => xE g (va_A wc H.size) (W1 u) t) (va_A wc H.size) a) (va_A wc H.size))
    (W2 : S → va_W) (hr : isR.map (fun i => ws[i]?) = wr.map some) (hnr : va_nd isR = true) (hdis : ∀ i ∈ isR, i ∉ isC) (h2 : ∀ u, pe.map (fun i => (wr ++ W1 u)[i]?) = (W2 u).map some) (hpn : va_nd pe = true)
    (kk : ∀ (u : S) (v : Int) (H1 : Heap) (locs1 : List Loc), v = val u → Φ u → va_P (gD g) vwCl (W2 u) H1 → va_D A (W2 u) → va_S A s.heap H1 locs1 → W p l e R s m args below meth c H1 locs1 (cells + mc) (slots + ms) Q (F0 m (pc + 3) ls (.int (iI v) :: rest))) :
    W p l e R s m args below meth c H locs cells slots Q (F0 m pc ls st0) := by
  have hF := va_free (wc := wc) hD hS hA isC hc
  refine va_calli (hrun (x_pre hC hP hD hS hA isC hc hn)) hS (fun q _ h => hF q h) hF (fun r u t H1 locs1 ht hvm hw hB hz1 hk1 hS1 => ?_)
  obtain ⟨hP1, hD1⟩ := x_post hP hD hS hA isC isR pe hc hr hnr hdis ht hB hk1 (h2 u) hpn
  rw [hw.1]
  exact kk u (val u) H1 locs1 rfl hw.2 hP1 hD1 hS1
theorem x_callv {S : Type} {Φ : S → Prop} {W1 : S → va_W} {a : Array Value} (hC : xC g A s s.heap) (hP : va_P (gD g) vwCl ws H) (hD : va_D A ws) (hS : va_S A s.heap H locs) (hA : ∀ q : Nat, s.heap.size ≤ q → A q)
    (isC isR pe : List Nat) (hc : isC.map (fun i => ws[i]?) = wc.map some) (hn : va_nd isC = true)
    (hrun : (∀ av : List Value, ∀ U : State, U.heap = H → s.WarmedH U.vm → va_Pc av (xB g wc H.size) av.toArray U) → va_Run p l e R s m args below meth c H locs cells slots mc ms (F0 m pc ls st0) rest (va_Qv Φ (fun u t => xE g (va_A wc H.size) (W1 u) t) (va_A wc H.size) a) (va_A wc H.size))
    (W2 : S → va_W) (hr : isR.map (fun i => ws[i]?) = wr.map some) (hnr : va_nd isR = true) (hdis : ∀ i ∈ isR, i ∉ isC) (h2 : ∀ u, pe.map (fun i => (wr ++ W1 u)[i]?) = (W2 u).map some) (hpn : va_nd pe = true)
    (kk : ∀ (u : S) (H1 : Heap) (locs1 : List Loc), Φ u → va_P (gD g) vwCl (W2 u) H1 → va_D A (W2 u) → va_S A s.heap H1 locs1 → W p l e R s m args below meth c H1 locs1 (cells + mc) (slots + ms) Q (F0 m (pc + 3) ls rest)) :
    W p l e R s m args below meth c H locs cells slots Q (F0 m pc ls st0) := by
  have hF := va_free (wc := wc) hD hS hA isC hc
  refine va_callv (hrun (x_pre hC hP hD hS hA isC hc hn)) hS (fun q _ h => hF q h) hF (fun u t H1 locs1 ht hvm hw hB hz1 hk1 hS1 => ?_)
  obtain ⟨hP1, hD1⟩ := x_post hP hD hS hA isC isR pe hc hr hnr hdis ht hB hk1 (h2 u) hpn
  exact kk u H1 locs1 hw hP1 hD1 hS1
/-- rows of ints and chars -/
theorem x_iald (hx : p.tables.exec = Jvm.exec) (hb : c.code = cc) {D : va_G} {cl : List vw_C} {tys : List (ClassId × FieldType)} (hK : va_K D cl tys s) (hP : va_P D cl ws H) (q0 t0 : Nat) {aa : Nat} {cA : ClassId} {n : Nat} {F : Int → Int} (ha : ws[q0]? = some (aa, .inl (cA, n, .inl (ar F)))) (ht : tys[t0]? = some (cA, .int)) {i : Int} (h0 : 0 ≤ i) (h1 : i < (n : Int)) (hn : n ≤ 2147483647) (d : decode cc pc = .ok (.iaload, 1))
    (kk : ∀ v : Int, v = F i → W p l e R s m args below meth c H locs cells slots Q (F0 m (pc + 1) ls (.int (iI v) :: rest))) : W p l e R s m args below meth c H locs cells slots Q (F0 m pc ls (.int (iI i) :: .ref aa :: rest)) :=
  va_iald hx hb hK hP q0 t0 ha ht (iI_in h0 h1 (by omega)) d (by rw [ar_at F h0 (by omega)]; exact kk _ rfl)
theorem x_iast (hx : p.tables.exec = Jvm.exec) (hb : c.code = cc) {D : va_G} {cl : List vw_C} {tys : List (ClassId × FieldType)} {H0 : Heap} (hK : va_K D cl tys s) (hP : va_P D cl ws H) (hD : va_D A ws) (hS : va_S A H0 H locs) (q0 t0 : Nat) {aa : Nat} {cA : ClassId} {n : Nat} {F : Int → Int} (ha : ws[q0]? = some (aa, .inl (cA, n, .inl (ar F)))) (ht : tys[t0]? = some (cA, .int)) {i v : Int} (h0 : 0 ≤ i) (h1 : i < (n : Int)) (hn : n ≤ 2147483647) (d : decode cc pc = .ok (.iastore, 1))
    (kk : ∀ (H1 : Heap) (locs1 : List Loc), va_P D cl (ws.set q0 (aa, .inl (cA, n, .inl (ar (up F i v))))) H1 → va_D A (ws.set q0 (aa, .inl (cA, n, .inl (ar (up F i v))))) → va_S A H0 H1 locs1 → W p l e R s m args below meth c H1 locs1 cells slots Q (F0 m (pc + 1) ls rest)) : W p l e R s m args below meth c H locs cells slots Q (F0 m pc ls (.int (iI v) :: .int (iI i) :: .ref aa :: rest)) :=
  va_iast hx hb hK hP hD hS q0 t0 ha ht (iI_in h0 h1 (by omega)) d (by rw [ar_up F v h0 (by omega)]; exact kk)
theorem vp_nar_c {v : Int} (h0 : 0 ≤ v) (h1 : v < 65536) : vp_nar .char (iI v) = iI v := by
  rw [vp_nar_char]
  obtain ⟨n, rfl⟩ := Int.eq_ofNat_of_zero_le h0
  have hn : n < 65536 := by omega
  show (Int32.ofInt (n : Int)).toUInt32.toUInt16.toUInt32.toInt32 = Int32.ofInt (n : Int)
  apply Int32.toBitVec.inj
  apply BitVec.eq_of_toNat_eq
  simp
  omega
theorem x_cald (hx : p.tables.exec = Jvm.exec) (hb : c.code = cc) {D : va_G} {cl : List vw_C} {tys : List (ClassId × FieldType)} (hK : va_K D cl tys s) (hP : va_P D cl ws H) (q0 t0 : Nat) {aa : Nat} {cA : ClassId} {n : Nat} {F : Int → Int} (ha : ws[q0]? = some (aa, .inl (cA, n, .inl (ar F)))) (ht : tys[t0]? = some (cA, .char)) {i : Int} (h0 : 0 ≤ i) (h1 : i < (n : Int)) (hn : n ≤ 2147483647) (d : decode cc pc = .ok (.caload, 1))
    (kk : ∀ v : Int, v = F i → W p l e R s m args below meth c H locs cells slots Q (F0 m (pc + 1) ls (.int (iI v) :: rest))) : W p l e R s m args below meth c H locs cells slots Q (F0 m pc ls (.int (iI i) :: .ref aa :: rest)) :=
  va_cald hx hb hK hP q0 t0 ha ht (iI_in h0 h1 (by omega)) d (by rw [ar_at F h0 (by omega)]; exact kk _ rfl)
theorem x_cast (hx : p.tables.exec = Jvm.exec) (hb : c.code = cc) {D : va_G} {cl : List vw_C} {tys : List (ClassId × FieldType)} {H0 : Heap} (hK : va_K D cl tys s) (hP : va_P D cl ws H) (hD : va_D A ws) (hS : va_S A H0 H locs) (q0 t0 : Nat) {aa : Nat} {cA : ClassId} {n : Nat} {F : Int → Int} (ha : ws[q0]? = some (aa, .inl (cA, n, .inl (ar F)))) (ht : tys[t0]? = some (cA, .char)) {i v : Int} (h0 : 0 ≤ i) (h1 : i < (n : Int)) (hn : n ≤ 2147483647) (hv : 0 ≤ v ∧ v < 65536) (d : decode cc pc = .ok (.castore, 1))
    (kk : ∀ (H1 : Heap) (locs1 : List Loc), va_P D cl (ws.set q0 (aa, .inl (cA, n, .inl (ar (up F i v))))) H1 → va_D A (ws.set q0 (aa, .inl (cA, n, .inl (ar (up F i v))))) → va_S A H0 H1 locs1 → W p l e R s m args below meth c H1 locs1 cells slots Q (F0 m (pc + 1) ls rest)) : W p l e R s m args below meth c H locs cells slots Q (F0 m pc ls (.int (iI v) :: .int (iI i) :: .ref aa :: rest)) :=
  va_cast hx hb hK hP hD hS q0 t0 ha ht (iI_in h0 h1 (by omega)) d (by rw [vp_nar_c hv.1 hv.2, ar_up F v h0 (by omega)]; exact kk)
theorem x_tald (hx : p.tables.exec = Jvm.exec) (hb : c.code = cc) {t N : Nat} {F : Int → Int} (hT : va_T .int t N (fun j => .int (ar F j)) A s s.heap) (hS : va_S A s.heap H locs) {i : Int} (h0 : 0 ≤ i) (h1 : i < (N : Int)) (hn : N ≤ 2147483647) (d : decode cc pc = .ok (.iaload, 1))
    (kk : ∀ v : Int, v = F i → W p l e R s m args below meth c H locs cells slots Q (F0 m (pc + 1) ls (.int (iI v) :: rest))) : W p l e R s m args below meth c H locs cells slots Q (F0 m pc ls (.int (iI i) :: .ref t :: rest)) :=
  va_ti hx hb hT hS (iI_in h0 h1 (by omega)) (v := .int (iI (F i))) (by rw [ar_at F h0 (by omega)]) d (kk _ rfl)
/-- ends -/
theorem x_iret {ty : FieldType} (hx : p.tables.exec = Jvm.exec) (hb : c.code = cc) (hr : meth.sig.returnType = some ty) (hlocks : meth.locks = false) (hP : va_P (gD g) vwCl ws H) (hD : va_D A ws) (hS : va_S A s.heap H locs) {S : Type} {val : S → Int} {Φ : S → Prop} {W1 : S → va_W} {v : Int} (hn : narrow ty (.int (iI v)) = .int (iI v)) (d : decode cc pc = .ok (.ireturn, 1)) (u : S) (hv : v = val u) (hu : Φ u) (hW : ws = W1 u) (h1 : cells ≤ mc) (h2 : slots ≤ ms) :
    W p l e R s m args below meth c H locs cells slots (MQ below (va_Qi (fun r u => r = iI (val u) ∧ Φ u) (fun u t => xE g A (W1 u) t) A) args s mc ms A) (F0 m pc ls [.int (iI v)]) := by
  refine W.widen (k := mc) (n := ms) h1 h2 ?_
  exact W.zret (v := iI v) hx hb hr hn (fun t ht hW9 => ⟨⟨iI v, u, rfl, ⟨by rw [hv], hu⟩, ⟨by rw [ht, ← hW]; exact hP, by rw [← hW]; exact hD⟩⟩, hS.F ht⟩) hS.2.2 d
theorem x_vret (hx : p.tables.exec = Jvm.exec) (hb : c.code = cc) (hr : meth.sig.returnType = none) (hlocks : meth.locks = false) (hP : va_P (gD g) vwCl ws H) (hD : va_D A ws) (hS : va_S A s.heap H locs) {S : Type} {Φ : S → Prop} {W1 : S → va_W} (d : decode cc pc = .ok (.return_, 1)) (u : S) (hu : Φ u) (hW : ws = W1 u) (h1 : cells ≤ mc) (h2 : slots ≤ ms) :
    W p l e R s m args below meth c H locs cells slots (MQ below (va_Qv Φ (fun u t => xE g A (W1 u) t) A) args s mc ms A) (F0 m pc ls []) := by
  refine W.widen (k := mc) (n := ms) h1 h2 ?_
  exact W.vret hx hb hr (fun t ht hW9 => ⟨⟨u, rfl, hu, ⟨by rw [ht, ← hW]; exact hP, by rw [← hW]; exact hD⟩⟩, hS.F ht⟩) hS.2.2 d
end XC
/-- a contract's entry -/
theorem x_enter {l : Launch} {y : MethodName} {ws ws' : List Cond} {rm : Room} {g : xg} {WS : va_W} {sz : Nat} {av : List Value} {Qc : (Nat → Prop) → Array Value → State → Outcome → State → Prop} {mc ms : Nat} {cc : ByteArray} {maxL : Nat} {ret : Option FieldType}
    (hy : plainName y.cls = true) (hw : ws = Cond.code y cc maxL ret :: ws') (hlen : (lg_sl av).length ≤ maxL)
    (body : ∀ p e s m args below meth c A ls, p.tables.exec = Jvm.exec → c.code = cc → meth.sig.returnType = ret → c.maxLocals = maxL → s.vm.findClass y.cls = some m.cls → (∀ w ∈ ws, w.before args s = true) → meth.locks = false → meth.name = y.name → xC g A s s.heap → va_P (gD g) vwCl WS s.heap → va_D A WS → va_S A s.heap s.heap [] → (∀ q : Nat, s.heap.size ≤ q → A q) → lv_has ls maxL (lv_args 0 av) →
      W p l e rm s m args below meth c s.heap [] 0 0 (MQ below (Qc A) args s mc ms A) (F0 m 0 ls [])) :
    Met l y ws rm (va_Pc av (xB g WS sz)) (Qc (va_A WS sz)) mc ms (va_A WS sz) := by
  refine Met.ofW (cc := cc) (maxL := maxL) (ret := ret) hy hw ?_
  intro p e s m args below meth c s₁ B hml hv
  obtain ⟨rfl, hsz, hP, hD0, hC⟩ := hv
  subst hsz
  rw [lg_entry_eq]
  exact body p e s m _ below meth c _ _ B.exec B.bytes B.returns hml (findClass_of_methodNamed B.named) (atoms_spec (ws := ws) B.pre) B.notSynchronized (name_of_methodNamed B.named B.method).1 hC hP hD0.self va_S.rf (fun q h => Or.inr h) (lv_entry av hlen)
