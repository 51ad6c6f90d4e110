section XX
variable {p : Program} {l : Launch} {e : Env} {R : Room} {s : State} {m : MethodId} {args : Array Value} {below : List Frame} {meth : Method} {c : Code} {H : Heap} {locs : List Loc} {cells slots : Nat} {Q : State → Prop}
variable {cc : ByteArray} {pc : Nat} {ls : Array Slot} {rest st0 : List Value} {g : xg} {A : Nat → Prop} {ws wc wr : va_W} {mc ms : Nat}
/-- how a method throws: the class by its name, the world behind it -/
abbrev xX {S : Type} (g : xg) (A : Nat → Prop) (ΦX : S → Prop) (PX : String → Prop) (WX : S → va_W) : String → State → State → Prop := vx_X ΦX (fun E u t => PX E ∧ xE g A (WX u) t) A
theorem x_far (hS : va_S A s.heap H locs) {t : State} (h1 : H.size ≤ t.heap.size) (h2 : ∀ q : Nat, q < H.size → t.heap[q]? = H[q]?) : va_F A s t :=
  ⟨Nat.le_trans hS.1 h1, fun q hq hA => by rw [h2 q (Nat.lt_of_lt_of_le hq hS.1)]; exact hS.2.1 q hq hA⟩
theorem x_throwS (hx : p.tables.exec = Jvm.exec) (hb : c.code = cc) (hl : l.stackTraces = false) {own cls text : String} {names : List String} {ik is ic : Nat}
    (hown : s.vm.findClass own = some m.cls) (hcls : Bundle.fit cls = true) (hnames : ∀ n ∈ names, Bundle.fit n = true)
    (hk : (Cond.classLink own ik cls).before args s = true) (hini : (Cond.initialized cls).before args s = true) (hstr : ∃ sa : Nat, vk_R own is text sa s) (hat : ∀ w ∈ vx_atS own ic cls names, w.before args s = true)
    (hgood : ∀ w ∈ Cond.classLink own ik cls :: Cond.initialized cls :: vx_atS own ic cls names, vx_ot w = true)
    (hC : xC g A s s.heap) (hP : va_P (gD g) vwCl ws H) (hD : va_D A ws) (hS : va_S A s.heap H locs) (hsize : ls.size = c.maxLocals)
    (d0 : decode cc pc = .ok (.new ik, 3)) (d3 : decode cc (pc + 3) = .ok (.dup, 1)) (d4 : decode cc (pc + 4) = .ok (.ldc is, 2)) (d6 : decode cc (pc + 6) = .ok (.invokespecial ic, 3)) (d9 : decode cc (pc + 9) = .ok (.athrow, 1))
    (hout : ∀ x ∈ c.exceptionTable.toList, False)
    (hRframes : names.length + 3 < R.frames) (hRlocals : (rest.map fun v => v.category).sum + (13 * (names.length + 1) + 43) ≤ R.locals) (hRcells : cells + 1 ≤ R.cells) (hRslots : slots + 6 ≤ R.slots) (hlocks : meth.locks = false)
    {S : Type} {ΦX : S → Prop} {PX : String → Prop} {WX : S → va_W} {Qc : Array Value → State → Outcome → State → Prop} (u : S) (hΦX : ΦX u) (hPX : PX cls) (hW : ws = WX u) (h1 : cells + 1 ≤ mc) (h2 : slots + 6 ≤ ms) :
    W p l e R s m args below meth c H locs cells slots (vx_MQ below Qc (xX g A ΦX PX WX) args s mc ms A) (F0 m pc ls rest) := by
  obtain ⟨sa, hs⟩ := hstr
  exact vx_throwS (A := A) hx hb hl hown hcls hnames hk hini hs hat hgood hC.2.2.2.1 hC.2.2.2.2.1 hS hsize d0 d3 d4 d6 d9 (fun x hx9 => absurd (hout x hx9) id) hRframes hRlocals hRcells hRslots hlocks
    (fun t hvm hz hq => ⟨u, hΦX, ⟨hPX, ⟨by rw [← hW]; exact hP.kept (fun k q hk => hq q.1 (hP k q hk).lt), by rw [← hW]; exact hD⟩⟩, x_far hS hz hq⟩) hS.2.2 h1 h2
theorem x_throwSW (hx : p.tables.exec = Jvm.exec) (hb : c.code = cc) (hl : l.stackTraces = false) {own cls text : String} {names : List String} {ik is ic : Nat}
    (hown : s.vm.findClass own = some m.cls) (hcls : Bundle.fit cls = true) (hnames : ∀ n ∈ names, Bundle.fit n = true)
    (hk : (Cond.classLink own ik cls).before args s = true) (hini : (Cond.initialized cls).before args s = true) (hstr : ∃ sa : Nat, vk_R own is text sa s) (hat : ∀ w ∈ vx_atS own ic cls names, w.before args s = true)
    (hgood : ∀ w ∈ Cond.classLink own ik cls :: Cond.initialized cls :: vx_atS own ic cls names, vx_ot w = true)
    (hC : xC g A s s.heap) (hP : va_P (gD g) vwCl ws H) (hD : va_D A ws) (hS : va_S A s.heap H locs) (hsize : ls.size = c.maxLocals)
    (d0 : decode cc pc = .ok (.new ik, 3)) (d3 : decode cc (pc + 3) = .ok (.dup, 1)) (d4 : decode cc (pc + 4) = .ok (.ldc_w is, 3)) (d7 : decode cc (pc + 7) = .ok (.invokespecial ic, 3)) (d10 : decode cc (pc + 10) = .ok (.athrow, 1))
    (hout : ∀ x ∈ c.exceptionTable.toList, False)
    (hRframes : names.length + 3 < R.frames) (hRlocals : (rest.map fun v => v.category).sum + (13 * (names.length + 1) + 43) ≤ R.locals) (hRcells : cells + 1 ≤ R.cells) (hRslots : slots + 6 ≤ R.slots) (hlocks : meth.locks = false)
    {S : Type} {ΦX : S → Prop} {PX : String → Prop} {WX : S → va_W} {Qc : Array Value → State → Outcome → State → Prop} (u : S) (hΦX : ΦX u) (hPX : PX cls) (hW : ws = WX u) (h1 : cells + 1 ≤ mc) (h2 : slots + 6 ≤ ms) :
    W p l e R s m args below meth c H locs cells slots (vx_MQ below Qc (xX g A ΦX PX WX) args s mc ms A) (F0 m pc ls rest) := by
  obtain ⟨sa, hs⟩ := hstr
  exact vx_throwSW (A := A) hx hb hl hown hcls hnames hk hini hs hat hgood hC.2.2.2.1 hC.2.2.2.2.1 hS hsize d0 d3 d4 d7 d10 (fun x hx9 => absurd (hout x hx9) id) hRframes hRlocals hRcells hRslots hlocks
    (fun t hvm hz hq => ⟨u, hΦX, ⟨hPX, ⟨by rw [← hW]; exact hP.kept (fun k q hk => hq q.1 (hP k q hk).lt), by rw [← hW]; exact hD⟩⟩, x_far hS hz hq⟩) hS.2.2 h1 h2
theorem x_throwN (hx : p.tables.exec = Jvm.exec) (hb : c.code = cc) (hl : l.stackTraces = false) {own cls text : String} {names : List String} {ik is ic : Nat}
    (hown : s.vm.findClass own = some m.cls) (hcls : Bundle.fit cls = true) (hnames : ∀ n ∈ names, Bundle.fit n = true)
    (hk : (Cond.classLink own ik cls).before args s = true) (hini : (Cond.initialized cls).before args s = true) (hstr : ∃ sa : Nat, vk_R own is text sa s) (hat : ∀ w ∈ zx_atN own ic cls names, w.before args s = true)
    (hgood : ∀ w ∈ Cond.classLink own ik cls :: Cond.initialized cls :: zx_atN own ic cls names, vx_ot w = true)
    (hC : xC g A s s.heap) (hP : va_P (gD g) vwCl ws H) (hD : va_D A ws) (hS : va_S A s.heap H locs) (hsize : ls.size = c.maxLocals)
    (d0 : decode cc pc = .ok (.new ik, 3)) (d3 : decode cc (pc + 3) = .ok (.dup, 1)) (d4 : decode cc (pc + 4) = .ok (.ldc is, 2)) (d6 : decode cc (pc + 6) = .ok (.invokespecial ic, 3)) (d9 : decode cc (pc + 9) = .ok (.athrow, 1))
    (hout : ∀ x ∈ c.exceptionTable.toList, False)
    (hRframes : names.length + 3 < R.frames) (hRlocals : (rest.map fun v => v.category).sum + (13 * (names.length + 1) + 43) ≤ R.locals) (hRcells : cells + 1 ≤ R.cells) (hRslots : slots + 6 ≤ R.slots) (hlocks : meth.locks = false)
    {S : Type} {ΦX : S → Prop} {PX : String → Prop} {WX : S → va_W} {Qc : Array Value → State → Outcome → State → Prop} (u : S) (hΦX : ΦX u) (hPX : PX cls) (hW : ws = WX u) (h1 : cells + 1 ≤ mc) (h2 : slots + 6 ≤ ms) :
    W p l e R s m args below meth c H locs cells slots (vx_MQ below Qc (xX g A ΦX PX WX) args s mc ms A) (F0 m pc ls rest) := by
  obtain ⟨sa, hs⟩ := hstr
  exact zx_throwN (A := A) hx hb hl hown hcls hnames hk hini hs hat hgood hC.2.2.2.1 hC.2.2.2.2.1 hS hsize d0 d3 d4 d6 d9 (fun x hx9 => absurd (hout x hx9) id) hRframes hRlocals hRcells hRslots hlocks
    (fun t hvm hz hq => ⟨u, hΦX, ⟨hPX, ⟨by rw [← hW]; exact hP.kept (fun k q hk => hq q.1 (hP k q hk).lt), by rw [← hW]; exact hD⟩⟩, x_far hS hz hq⟩) hS.2.2 h1 h2
theorem x_throwNW (hx : p.tables.exec = Jvm.exec) (hb : c.code = cc) (hl : l.stackTraces = false) {own cls text : String} {names : List String} {ik is ic : Nat}
    (hown : s.vm.findClass own = some m.cls) (hcls : Bundle.fit cls = true) (hnames : ∀ n ∈ names, Bundle.fit n = true)
    (hk : (Cond.classLink own ik cls).before args s = true) (hini : (Cond.initialized cls).before args s = true) (hstr : ∃ sa : Nat, vk_R own is text sa s) (hat : ∀ w ∈ zx_atN own ic cls names, w.before args s = true)
    (hgood : ∀ w ∈ Cond.classLink own ik cls :: Cond.initialized cls :: zx_atN own ic cls names, vx_ot w = true)
    (hC : xC g A s s.heap) (hP : va_P (gD g) vwCl ws H) (hD : va_D A ws) (hS : va_S A s.heap H locs) (hsize : ls.size = c.maxLocals)
    (d0 : decode cc pc = .ok (.new ik, 3)) (d3 : decode cc (pc + 3) = .ok (.dup, 1)) (d4 : decode cc (pc + 4) = .ok (.ldc_w is, 3)) (d7 : decode cc (pc + 7) = .ok (.invokespecial ic, 3)) (d10 : decode cc (pc + 10) = .ok (.athrow, 1))
    (hout : ∀ x ∈ c.exceptionTable.toList, False)
    (hRframes : names.length + 3 < R.frames) (hRlocals : (rest.map fun v => v.category).sum + (13 * (names.length + 1) + 43) ≤ R.locals) (hRcells : cells + 1 ≤ R.cells) (hRslots : slots + 6 ≤ R.slots) (hlocks : meth.locks = false)
    {S : Type} {ΦX : S → Prop} {PX : String → Prop} {WX : S → va_W} {Qc : Array Value → State → Outcome → State → Prop} (u : S) (hΦX : ΦX u) (hPX : PX cls) (hW : ws = WX u) (h1 : cells + 1 ≤ mc) (h2 : slots + 6 ≤ ms) :
    W p l e R s m args below meth c H locs cells slots (vx_MQ below Qc (xX g A ΦX PX WX) args s mc ms A) (F0 m pc ls rest) := by
  obtain ⟨sa, hs⟩ := hstr
  exact zx_throwNW (A := A) hx hb hl hown hcls hnames hk hini hs hat hgood hC.2.2.2.1 hC.2.2.2.2.1 hS hsize d0 d3 d4 d7 d10 (fun x hx9 => absurd (hout x hx9) id) hRframes hRlocals hRcells hRslots hlocks
    (fun t hvm hz hq => ⟨u, hΦX, ⟨hPX, ⟨by rw [← hW]; exact hP.kept (fun k q hk => hq q.1 (hP k q hk).lt), by rw [← hW]; exact hD⟩⟩, x_far hS hz hq⟩) hS.2.2 h1 h2
theorem x_out {E : String} {ce : Cell} {q : Addr} (hout : ∀ x ∈ c.exceptionTable.toList, False) (hlocks : meth.locks = false) (hP : va_P (gD g) vwCl ws H) (hD : va_D A ws) (hS : va_S A s.heap H locs) (hcell : H[q]? = some ce) (hv : ce.vm = .none) (hcl : s.vm.findClass E = some ce.cls)
    {S : Type} {ΦX : S → Prop} {PX : String → Prop} {WX : S → va_W} {Qc : Array Value → State → Outcome → State → Prop} (u : S) (hΦX : ΦX u) (hPX : PX E) (hW : ws = WX u) (h1 : cells ≤ mc) (h2 : slots ≤ ms) :
    vx_W p l e R s m args below meth c H locs cells slots (vx_MQ below Qc (xX g A ΦX PX WX) args s mc ms A) (F0 m pc ls rest) q :=
  vx_out (fun x hx9 => absurd (hout x hx9) id) hlocks hcell hv hcl (fun t ht hvm => ⟨u, hΦX, ⟨hPX, ⟨by rw [ht, ← hW]; exact hP, by rw [← hW]; exact hD⟩⟩, hS.F ht⟩) hS.2.2 h1 h2
/-- calls that may throw -/
theorem x_calliX {S SX : Type} {val : S → Int} {Φ : S → Prop} {W1 : S → va_W} {ΦX : SX → Prop} {PX : String → Prop} {WX : SX → va_W} {a : Array Value} (hC : xC g A s s.heap) (hP : va_P (gD g) vwCl ws H) (hD : va_D A ws) (hS : va_S A s.heap H locs) (hA : ∀ q : Nat, s.heap.size ≤ q → A q)
    (isC isR pe : List Nat) (hc : isC.map (fun i => ws[i]?) = wc.map some) (hn : va_nd isC = true)
    (hrun : (∀ av : List Value, ∀ U : State, U.heap = H → s.WarmedH U.vm → va_Pc av (xB g wc H.size) av.toArray U) → vx_Run p l e R s m args below meth c H locs cells slots mc ms (F0 m pc ls st0) rest (va_Qi (fun r u => r = iI (val u) ∧ Φ u) (fun u t => xE g (va_A wc H.size) (W1 u) t) (va_A wc H.size) a) (xX g (va_A wc H.size) ΦX PX WX) (va_A wc H.size))
    (W2 : S → va_W) (W2X : SX → va_W) (hr : isR.map (fun i => ws[i]?) = wr.map some) (hnr : va_nd isR = true) (hdis : ∀ i ∈ isR, i ∉ isC) (h2 : ∀ u, pe.map (fun i => (wr ++ W1 u)[i]?) = (W2 u).map some) (h2x : ∀ u, pe.map (fun i => (wr ++ WX u)[i]?) = (W2X u).map some) (hpn : va_nd pe = true)
    (kx : ∀ (E : String) (ce : Cell) (q : Addr) (u : SX) (H1 : Heap) (locs1 : List Loc), ΦX u → PX E → va_P (gD g) vwCl (W2X u) H1 → va_D A (W2X u) → va_S A s.heap H1 locs1 → H1[q]? = some ce → ce.vm = .none → s.vm.findClass E = some ce.cls → vx_W p l e R s m args below meth c H1 locs1 (cells + mc) (slots + ms) Q (F0 m pc ls rest) q)
    (kk : ∀ (u : S) (v : Int) (H1 : Heap) (locs1 : List Loc), v = val u → Φ u → va_P (gD g) vwCl (W2 u) H1 → va_D A (W2 u) → va_S A s.heap H1 locs1 → W p l e R s m args below meth c H1 locs1 (cells + mc) (slots + ms) Q (F0 m (pc + 3) ls (.int (iI v) :: rest))) :
    W p l e R s m args below meth c H locs cells slots Q (F0 m pc ls st0) := by
  have hF := va_free (wc := wc) hD hS hA isC hc
  refine vx_calli (hrun (x_pre hC hP hD hS hA isC hc hn)) hS (fun q _ h => hF q h) hF (fun q _ h => hF q h) (fun E ce q9 u t H1 locs1 ht hvm hpx hB hz1 hk1 hS1 hcell hv hcl => ?_) (fun r u t H1 locs1 ht hvm hw hB hz1 hk1 hS1 => ?_)
  · obtain ⟨hP1, hD1⟩ := x_post hP hD hS hA isC isR pe hc hr hnr hdis ht hB.2 hk1 (h2x u) hpn
    exact kx E ce q9 u H1 locs1 hpx hB.1 hP1 hD1 hS1 hcell hv hcl
  · obtain ⟨hP1, hD1⟩ := x_post hP hD hS hA isC isR pe hc hr hnr hdis ht hB hk1 (h2 u) hpn
    rw [hw.1]
    exact kk u (val u) H1 locs1 rfl hw.2 hP1 hD1 hS1
theorem x_callvX {S SX : Type} {Φ : S → Prop} {W1 : S → va_W} {ΦX : SX → Prop} {PX : String → Prop} {WX : SX → va_W} {a : Array Value} (hC : xC g A s s.heap) (hP : va_P (gD g) vwCl ws H) (hD : va_D A ws) (hS : va_S A s.heap H locs) (hA : ∀ q : Nat, s.heap.size ≤ q → A q)
    (isC isR pe : List Nat) (hc : isC.map (fun i => ws[i]?) = wc.map some) (hn : va_nd isC = true)
    (hrun : (∀ av : List Value, ∀ U : State, U.heap = H → s.WarmedH U.vm → va_Pc av (xB g wc H.size) av.toArray U) → vx_Run p l e R s m args below meth c H locs cells slots mc ms (F0 m pc ls st0) rest (va_Qv Φ (fun u t => xE g (va_A wc H.size) (W1 u) t) (va_A wc H.size) a) (xX g (va_A wc H.size) ΦX PX WX) (va_A wc H.size))
    (W2 : S → va_W) (W2X : SX → va_W) (hr : isR.map (fun i => ws[i]?) = wr.map some) (hnr : va_nd isR = true) (hdis : ∀ i ∈ isR, i ∉ isC) (h2 : ∀ u, pe.map (fun i => (wr ++ W1 u)[i]?) = (W2 u).map some) (h2x : ∀ u, pe.map (fun i => (wr ++ WX u)[i]?) = (W2X u).map some) (hpn : va_nd pe = true)
    (kx : ∀ (E : String) (ce : Cell) (q : Addr) (u : SX) (H1 : Heap) (locs1 : List Loc), ΦX u → PX E → va_P (gD g) vwCl (W2X u) H1 → va_D A (W2X u) → va_S A s.heap H1 locs1 → H1[q]? = some ce → ce.vm = .none → s.vm.findClass E = some ce.cls → vx_W p l e R s m args below meth c H1 locs1 (cells + mc) (slots + ms) Q (F0 m pc ls rest) q)
    (kk : ∀ (u : S) (H1 : Heap) (locs1 : List Loc), Φ u → va_P (gD g) vwCl (W2 u) H1 → va_D A (W2 u) → va_S A s.heap H1 locs1 → W p l e R s m args below meth c H1 locs1 (cells + mc) (slots + ms) Q (F0 m (pc + 3) ls rest)) :
    W p l e R s m args below meth c H locs cells slots Q (F0 m pc ls st0) := by
  have hF := va_free (wc := wc) hD hS hA isC hc
  refine vx_callv (hrun (x_pre hC hP hD hS hA isC hc hn)) hS (fun q _ h => hF q h) hF (fun q _ h => hF q h) (fun E ce q9 u t H1 locs1 ht hvm hpx hB hz1 hk1 hS1 hcell hv hcl => ?_) (fun u t H1 locs1 ht hvm hw hB hz1 hk1 hS1 => ?_)
  · obtain ⟨hP1, hD1⟩ := x_post hP hD hS hA isC isR pe hc hr hnr hdis ht hB.2 hk1 (h2x u) hpn
    exact kx E ce q9 u H1 locs1 hpx hB.1 hP1 hD1 hS1 hcell hv hcl
  · obtain ⟨hP1, hD1⟩ := x_post hP hD hS hA isC isR pe hc hr hnr hdis ht hB hk1 (h2 u) hpn
    exact kk u H1 locs1 hw hP1 hD1 hS1
end XX
/-- the entry of a method that may throw -/
theorem x_enterX {l : Launch} {y : MethodName} {ws ws' : List Cond} {rm : Room} {g : xg} {WS : va_W} {sz : Nat} {av : List Value} {Qc : (Nat → Prop) → Array Value → State → Outcome → State → Prop} {XC : (Nat → Prop) → String → State → State → Prop} {mc ms : Nat} {cc : ByteArray} {maxL : Nat} {ret : Option FieldType}
    (hy : plainName y.cls = true) (hw : ws = Cond.code y cc maxL ret :: ws') (hlen : (lg_sl av).length ≤ maxL)
    (body : ∀ p e s m args below meth c A ls, p.tables.exec = Jvm.exec → c.code = cc → meth.sig.returnType = ret → c.maxLocals = maxL → s.vm.findClass y.cls = some m.cls → (∀ w ∈ ws, w.before args s = true) → meth.locks = false → (∀ x ∈ c.exceptionTable.toList, False) → xC g A s s.heap → va_P (gD g) vwCl WS s.heap → va_D A WS → va_S A s.heap s.heap [] → (∀ q : Nat, s.heap.size ≤ q → A q) → lv_has ls maxL (lv_args 0 av) →
      W p l e rm s m args below meth c s.heap [] 0 0 (vx_MQ below (Qc A) (XC A) args s mc ms A) (F0 m 0 ls [])) :
    vx_Met l y ws rm (va_Pc av (xB g WS sz)) (Qc (va_A WS sz)) (XC (va_A WS sz)) mc ms (va_A WS sz) := by
  refine vx_ofW (cc := cc) (maxL := maxL) (ret := ret) hy hw ?_
  intro p e s m args below meth c s₁ B hml hout hv
  obtain ⟨rfl, hsz, hP, hD0, hC⟩ := hv
  subst hsz
  rw [lg_entry_eq]
  exact body p e s m _ below meth c _ _ B.exec B.bytes B.returns hml (findClass_of_methodNamed B.named) (atoms_spec (ws := ws) B.pre) B.notSynchronized hout hC hP hD0.self va_S.rf (fun q h => Or.inr h) (lv_entry av hlen)
theorem rsH_self (ht : Int → Int) (a : Int) : rsH ht a a = ht := by
  funext j; unfold rsH; rw [up_eq]; unfold up
  by_cases h : j = a
  · rw [if_pos h, h]; omega
  · rw [if_neg h, if_neg h]
theorem rsF_self (ht F : Int → Int) (a : Int) : rsF ht F a a = F := by
  funext j; unfold rsF; rw [up_eq]; unfold up
  by_cases h : j = a * 12 + (ht a - 1)
  · rw [if_pos h, h]; congr 1; omega
  · rw [if_neg h]
