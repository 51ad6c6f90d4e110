/-! The law's own methods: what they may take as given besides xC; their entry; the exception that they catch. -/
theorem x_enterH {l : Launch} {y : MethodName} {ws ws' : List Cond} {rm : Room} {g : xg} {WS : va_W} {sz : Nat} {av : List Value} {Qc : (Nat → Prop) → Array Value → State → Outcome → State → Prop} {mc ms : Nat} {cc : ByteArray} {maxL : Nat} {ret : Option FieldType} {hh : List (Nat × Nat × Nat × Nat)}
    (hy : plainName y.cls = true) (hw : ws = Cond.codeWith y cc maxL ret hh :: ws') (hlen : (lg_sl av).length ≤ maxL)
    (body : ∀ p e s m args below meth c A ls, p.tables.exec = Jvm.exec → c.code = cc → meth.sig.returnType = ret → c.maxLocals = maxL → s.vm.findClass y.cls = some m.cls → (∀ w ∈ ws, w.before args s = true) → meth.locks = false → c.exceptionTable.toList = tableOf hh → xC g A s s.heap → va_P (gD g) vwCl WS s.heap → va_D A WS → va_S A s.heap s.heap [] → (∀ q : Nat, s.heap.size ≤ q → A q) → lv_has ls maxL (lv_args 0 av) →
      W p l e rm s m args below meth c s.heap [] 0 0 (MQ below (Qc A) args s mc ms A) (F0 m 0 ls [])) :
    Met l y ws rm (va_Pc av (xB g WS sz)) (Qc (va_A WS sz)) mc ms (va_A WS sz) := by
  refine MetFree.of_bodyS (code := cc) (maxLocals := maxL) (ret := ret) hy ?_ ?_
  · intro args s m h hn
    obtain ⟨m9, meth, c, hn9, h1, h2, h3, h4, -, h5, h6, -⟩ := Cond.codeWith_spec (atoms_spec (ws := ws) h _ (by rw [hw]; exact List.mem_cons_self))
    cases hn.symm.trans hn9
    exact ⟨meth, c, h1, h2, h3, h4, h5, h6⟩
  · intro p e s m args below meth c s₁ B hml hv _
    have hh0 : s₁.heap = s.heap := by rw [B.state]; rfl
    have htab := vx_table (x := y) B (atoms_spec (ws := ws) B.pre _ (by rw [hw]; exact List.mem_cons_self))
    obtain ⟨rfl, hsz, hP, hD0, hC⟩ := hv
    subst hsz
    have K := body p e s m _ below meth c _ _ B.exec B.bytes B.returns hml (findClass_of_methodNamed B.named) (atoms_spec (ws := ws) B.pre) B.notSynchronized htab hC hP hD0.self va_S.rf (fun q h => Or.inr h) (lv_entry av hlen)
    rw [← lg_entry_eq] at K
    obtain ⟨t, a1, o, b1, b2, b3⟩ := K s₁ hh0 (Stand.of_body B)
    exact ⟨t, o, a1, b1, b2, b3⟩
section XFC
variable {p : Program} {l : Launch} {e : Env} {R : Room} {s : State} {m : MethodId} {args : Array Value} {below : List Frame} {meth : Method} {c : Code} {H : Heap} {locs : List Loc} {cells slots : Nat} {Q : State → Prop}
variable {cc : ByteArray} {pc : Nat} {ls : Array Slot} {rest st0 : List Value} {g : xg} {A : Nat → Prop} {ws wc wr : va_W} {mc ms : Nat}
theorem x_callfX {S SX : Type} {val : S → UInt32} {Φ : S → Prop} {W1 : S → va_W} {ΦX : SX → Prop} {PX : String → Prop} {WX : SX → va_W} {a : Array Value} (hC : xC g A s s.heap) (hP : va_P (gD g) vwCl ws H) (hD : va_D A ws) (hS : va_S A s.heap H locs) (hA : ∀ q : Nat, s.heap.size ≤ q → A q)
    (isC isR pe : List Nat) (hc : isC.map (fun i => ws[i]?) = wc.map some) (hn : va_nd isC = true)
    (hrun : (∀ av : List Value, ∀ U : State, U.heap = H → s.WarmedH U.vm → va_Pc av (xB g wc H.size) av.toArray U) → vx_Run p l e R s m args below meth c H locs cells slots mc ms (F0 m pc ls st0) rest (va_Qf (fun r u => r = val u ∧ Φ u) (fun u t => xE g (va_A wc H.size) (W1 u) t) (va_A wc H.size) a) (xX g (va_A wc H.size) ΦX PX WX) (va_A wc H.size))
    (W2 : S → va_W) (W2X : SX → va_W) (hr : isR.map (fun i => ws[i]?) = wr.map some) (hnr : va_nd isR = true) (hdis : ∀ i ∈ isR, i ∉ isC) (h2 : ∀ u, pe.map (fun i => (wr ++ W1 u)[i]?) = (W2 u).map some) (h2x : ∀ u, pe.map (fun i => (wr ++ WX u)[i]?) = (W2X u).map some) (hpn : va_nd pe = true)
    (kx : ∀ (E : String) (ce : Cell) (q : Addr) (u : SX) (H1 : Heap) (locs1 : List Loc), ΦX u → PX E → va_P (gD g) vwCl (W2X u) H1 → va_D A (W2X u) → va_S A s.heap H1 locs1 → H1[q]? = some ce → ce.vm = .none → s.vm.findClass E = some ce.cls → vx_W p l e R s m args below meth c H1 locs1 (cells + mc) (slots + ms) Q (F0 m pc ls rest) q)
    (kk : ∀ (u : S) (v : UInt32) (H1 : Heap) (locs1 : List Loc), v = val u → Φ u → va_P (gD g) vwCl (W2 u) H1 → va_D A (W2 u) → va_S A s.heap H1 locs1 → W p l e R s m args below meth c H1 locs1 (cells + mc) (slots + ms) Q (F0 m (pc + 3) ls (.float v :: rest))) :
    W p l e R s m args below meth c H locs cells slots Q (F0 m pc ls st0) := by
  have hF := va_free (wc := wc) hD hS hA isC hc
  refine vx_callf (hrun (x_pre hC hP hD hS hA isC hc hn)) hS (fun q _ h => hF q h) hF (fun q _ h => hF q h) (fun E ce q9 u t H1 locs1 ht hvm hpx hB hz1 hk1 hS1 hcell hv hcl => ?_) (fun r u t H1 locs1 ht hvm hw hB hz1 hk1 hS1 => ?_)
  · obtain ⟨hP1, hD1⟩ := x_post hP hD hS hA isC isR pe hc hr hnr hdis ht hB.2 hk1 (h2x u) hpn
    exact kx E ce q9 u H1 locs1 hpx hB.1 hP1 hD1 hS1 hcell hv hcl
  · obtain ⟨hP1, hD1⟩ := x_post hP hD hS hA isC isR pe hc hr hnr hdis ht hB hk1 (h2 u) hpn
    rw [hw.1]
    exact kk u (val u) H1 locs1 rfl hw.2 hP1 hD1 hS1
theorem x_callf {S : Type} {val : S → UInt32} {Φ : S → Prop} {W1 : S → va_W} {a : Array Value} (hC : xC g A s s.heap) (hP : va_P (gD g) vwCl ws H) (hD : va_D A ws) (hS : va_S A s.heap H locs) (hA : ∀ q : Nat, s.heap.size ≤ q → A q)
    (isC isR pe : List Nat) (hc : isC.map (fun i => ws[i]?) = wc.map some) (hn : va_nd isC = true)
    (hrun : (∀ av : List Value, ∀ U : State, U.heap = H → s.WarmedH U.vm → va_Pc av (xB g wc H.size) av.toArray U) → va_Run p l e R s m args below meth c H locs cells slots mc ms (F0 m pc ls st0) rest (va_Qf (fun r u => r = val u ∧ Φ u) (fun u t => xE g (va_A wc H.size) (W1 u) t) (va_A wc H.size) a) (va_A wc H.size))
    (W2 : S → va_W) (hr : isR.map (fun i => ws[i]?) = wr.map some) (hnr : va_nd isR = true) (hdis : ∀ i ∈ isR, i ∉ isC) (h2 : ∀ u, pe.map (fun i => (wr ++ W1 u)[i]?) = (W2 u).map some) (hpn : va_nd pe = true)
    (kk : ∀ (u : S) (v : UInt32) (H1 : Heap) (locs1 : List Loc), v = val u → Φ u → va_P (gD g) vwCl (W2 u) H1 → va_D A (W2 u) → va_S A s.heap H1 locs1 → W p l e R s m args below meth c H1 locs1 (cells + mc) (slots + ms) Q (F0 m (pc + 3) ls (.float v :: rest))) :
    W p l e R s m args below meth c H locs cells slots Q (F0 m pc ls st0) := by
  have hF := va_free (wc := wc) hD hS hA isC hc
  refine va_callf (hrun (x_pre hC hP hD hS hA isC hc hn)) hS (fun q _ h => hF q h) hF (fun r u t H1 locs1 ht hvm hw hB hz1 hk1 hS1 => ?_)
  obtain ⟨hP1, hD1⟩ := x_post hP hD hS hA isC isR pe hc hr hnr hdis ht hB hk1 (h2 u) hpn
  rw [hw.1]
  exact kk u (val u) H1 locs1 rfl hw.2 hP1 hD1 hS1
theorem x_calldX {S SX : Type} {val : S → UInt64} {Φ : S → Prop} {W1 : S → va_W} {ΦX : SX → Prop} {PX : String → Prop} {WX : SX → va_W} {a : Array Value} (hC : xC g A s s.heap) (hP : va_P (gD g) vwCl ws H) (hD : va_D A ws) (hS : va_S A s.heap H locs) (hA : ∀ q : Nat, s.heap.size ≤ q → A q)
    (isC isR pe : List Nat) (hc : isC.map (fun i => ws[i]?) = wc.map some) (hn : va_nd isC = true)
    (hrun : (∀ av : List Value, ∀ U : State, U.heap = H → s.WarmedH U.vm → va_Pc av (xB g wc H.size) av.toArray U) → vx_Run p l e R s m args below meth c H locs cells slots mc ms (F0 m pc ls st0) rest (va_Qd (fun r u => r = val u ∧ Φ u) (fun u t => xE g (va_A wc H.size) (W1 u) t) (va_A wc H.size) a) (xX g (va_A wc H.size) ΦX PX WX) (va_A wc H.size))
    (W2 : S → va_W) (W2X : SX → va_W) (hr : isR.map (fun i => ws[i]?) = wr.map some) (hnr : va_nd isR = true) (hdis : ∀ i ∈ isR, i ∉ isC) (h2 : ∀ u, pe.map (fun i => (wr ++ W1 u)[i]?) = (W2 u).map some) (h2x : ∀ u, pe.map (fun i => (wr ++ WX u)[i]?) = (W2X u).map some) (hpn : va_nd pe = true)
    (kx : ∀ (E : String) (ce : Cell) (q : Addr) (u : SX) (H1 : Heap) (locs1 : List Loc), ΦX u → PX E → va_P (gD g) vwCl (W2X u) H1 → va_D A (W2X u) → va_S A s.heap H1 locs1 → H1[q]? = some ce → ce.vm = .none → s.vm.findClass E = some ce.cls → vx_W p l e R s m args below meth c H1 locs1 (cells + mc) (slots + ms) Q (F0 m pc ls rest) q)
    (kk : ∀ (u : S) (v : UInt64) (H1 : Heap) (locs1 : List Loc), v = val u → Φ u → va_P (gD g) vwCl (W2 u) H1 → va_D A (W2 u) → va_S A s.heap H1 locs1 → W p l e R s m args below meth c H1 locs1 (cells + mc) (slots + ms) Q (F0 m (pc + 3) ls (.double v :: rest))) :
    W p l e R s m args below meth c H locs cells slots Q (F0 m pc ls st0) := by
  have hF := va_free (wc := wc) hD hS hA isC hc
  refine vx_calld (hrun (x_pre hC hP hD hS hA isC hc hn)) hS (fun q _ h => hF q h) hF (fun q _ h => hF q h) (fun E ce q9 u t H1 locs1 ht hvm hpx hB hz1 hk1 hS1 hcell hv hcl => ?_) (fun r u t H1 locs1 ht hvm hw hB hz1 hk1 hS1 => ?_)
  · obtain ⟨hP1, hD1⟩ := x_post hP hD hS hA isC isR pe hc hr hnr hdis ht hB.2 hk1 (h2x u) hpn
    exact kx E ce q9 u H1 locs1 hpx hB.1 hP1 hD1 hS1 hcell hv hcl
  · obtain ⟨hP1, hD1⟩ := x_post hP hD hS hA isC isR pe hc hr hnr hdis ht hB hk1 (h2 u) hpn
    rw [hw.1]
    exact kk u (val u) H1 locs1 rfl hw.2 hP1 hD1 hS1
theorem x_calld {S : Type} {val : S → UInt64} {Φ : S → Prop} {W1 : S → va_W} {a : Array Value} (hC : xC g A s s.heap) (hP : va_P (gD g) vwCl ws H) (hD : va_D A ws) (hS : va_S A s.heap H locs) (hA : ∀ q : Nat, s.heap.size ≤ q → A q)
    (isC isR pe : List Nat) (hc : isC.map (fun i => ws[i]?) = wc.map some) (hn : va_nd isC = true)
    (hrun : (∀ av : List Value, ∀ U : State, U.heap = H → s.WarmedH U.vm → va_Pc av (xB g wc H.size) av.toArray U) → va_Run p l e R s m args below meth c H locs cells slots mc ms (F0 m pc ls st0) rest (va_Qd (fun r u => r = val u ∧ Φ u) (fun u t => xE g (va_A wc H.size) (W1 u) t) (va_A wc H.size) a) (va_A wc H.size))
    (W2 : S → va_W) (hr : isR.map (fun i => ws[i]?) = wr.map some) (hnr : va_nd isR = true) (hdis : ∀ i ∈ isR, i ∉ isC) (h2 : ∀ u, pe.map (fun i => (wr ++ W1 u)[i]?) = (W2 u).map some) (hpn : va_nd pe = true)
    (kk : ∀ (u : S) (v : UInt64) (H1 : Heap) (locs1 : List Loc), v = val u → Φ u → va_P (gD g) vwCl (W2 u) H1 → va_D A (W2 u) → va_S A s.heap H1 locs1 → W p l e R s m args below meth c H1 locs1 (cells + mc) (slots + ms) Q (F0 m (pc + 3) ls (.double v :: rest))) :
    W p l e R s m args below meth c H locs cells slots Q (F0 m pc ls st0) := by
  have hF := va_free (wc := wc) hD hS hA isC hc
  refine va_calld (hrun (x_pre hC hP hD hS hA isC hc hn)) hS (fun q _ h => hF q h) hF (fun r u t H1 locs1 ht hvm hw hB hz1 hk1 hS1 => ?_)
  obtain ⟨hP1, hD1⟩ := x_post hP hD hS hA isC isR pe hc hr hnr hdis ht hB hk1 (h2 u) hpn
  rw [hw.1]
  exact kk u (val u) H1 locs1 rfl hw.2 hP1 hD1 hS1
end XFC
