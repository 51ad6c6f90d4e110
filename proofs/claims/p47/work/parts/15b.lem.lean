def lL (a : Int) : Int64 := Int64.ofInt a
theorem lL_add (a b : Int) : lL a + lL b = lL (a + b) := (Int64.ofInt_add a b).symm
theorem lL_i {a : Int} (h : iR a) : (iI a).toInt64 = lL a := Int32.toInt64_ofInt (by show (-2147483648 : Int) ≤ a; omega) (by show a ≤ (2147483647 : Int); omega)
section XL
variable {p : Program} {l : Launch} {e : Env} {R : Room} {s : State} {m : MethodId} {args : Array Value} {below : List Frame} {meth : Method} {c : Code} {H : Heap} {locs : List Loc} {cells slots : Nat} {Q : State → Prop}
variable {cc : ByteArray} {pc : Nat} {ls : Array Slot} {rest st0 : List Value} {g : xg} {A : Nat → Prop} {ws wc wr : va_W} {mc ms : Nat}
theorem x_i2l (hx : p.tables.exec = Jvm.exec) (hb : c.code = cc) {a : Int} (ha : iR a) (d : decode cc pc = .ok (.i2l, 1)) (k : W p l e R s m args below meth c H locs cells slots Q (F0 m (pc + 1) ls (.long (lL a) :: rest))) : W p l e R s m args below meth c H locs cells slots Q (F0 m pc ls (.int (iI a) :: rest)) := lv_i2l hx hb d (lL_i ha) k
theorem x_ladd (hx : p.tables.exec = Jvm.exec) (hb : c.code = cc) {a b : Int} (d : decode cc pc = .ok (.ladd, 1)) (k : W p l e R s m args below meth c H locs cells slots Q (F0 m (pc + 1) ls (.long (lL (a + b)) :: rest))) : W p l e R s m args below meth c H locs cells slots Q (F0 m pc ls (.long (lL b) :: .long (lL a) :: rest)) := lv_ladd hx hb d (by rw [lL_add]; exact k)
theorem x_lconst0 (hx : p.tables.exec = Jvm.exec) (hb : c.code = cc) (d : decode cc pc = .ok (.lconst 0, 1)) (k : W p l e R s m args below meth c H locs cells slots Q (F0 m (pc + 1) ls (.long (lL 0) :: rest))) : W p l e R s m args below meth c H locs cells slots Q (F0 m pc ls rest) := lv_lconst hx hb d rfl k
theorem x_topl {a b : Int} (h : a = b) (k : W p l e R s m args below meth c H locs cells slots Q (F0 m pc ls (.long (lL b) :: rest))) : W p l e R s m args below meth c H locs cells slots Q (F0 m pc ls (.long (lL a) :: rest)) := by rw [h]; exact k
theorem x_lret (hx : p.tables.exec = Jvm.exec) (hb : c.code = cc) (hr : meth.sig.returnType = some .long) (hlocks : meth.locks = false) (hP : va_P (gD g) vwCl ws H) (hD : va_D A ws) (hS : va_S A s.heap H locs) {S : Type} {val : S → Int} {Φ : S → Prop} {W1 : S → va_W} {v : Int} (d : decode cc pc = .ok (.lreturn, 1)) (u : S) (hv : v = val u) (hu : Φ u) (hW : ws = W1 u) (h1 : cells ≤ mc) (h2 : slots ≤ ms) :
    W p l e R s m args below meth c H locs cells slots (MQ below (va_Ql (fun r u => r = lL (val u) ∧ Φ u) (fun u t => xE g A (W1 u) t) A) args s mc ms A) (F0 m pc ls [.long (lL v)]) := by
  refine W.widen (k := mc) (n := ms) h1 h2 ?_
  exact W.lret (v := lL v) hx hb hr (fun t ht hW9 => ⟨⟨lL v, u, rfl, ⟨by rw [hv], hu⟩, ⟨by rw [ht, ← hW]; exact hP, by rw [← hW]; exact hD⟩⟩, hS.F ht⟩) hS.2.2 d
theorem x_calll {S : Type} {val : S → Int} {Φ : S → Prop} {W1 : S → va_W} {a : Array Value} (hC : xC g A s s.heap) (hP : va_P (gD g) vwCl ws H) (hD : va_D A ws) (hS : va_S A s.heap H locs) (hA : ∀ q : Nat, s.heap.size ≤ q → A q)
    (isC isR pe : List Nat) (hc : isC.map (fun i => ws[i]?) = wc.map some) (hn : va_nd isC = true)
    (hrun : (∀ av : List Value, ∀ U : State, U.heap = H → s.WarmedH U.vm → va_Pc av (xB g wc H.size) av.toArray U) → va_Run p l e R s m args below meth c H locs cells slots mc ms (F0 m pc ls st0) rest (va_Ql (fun r u => r = lL (val u) ∧ Φ u) (fun u t => xE g (va_A wc H.size) (W1 u) t) (va_A wc H.size) a) (va_A wc H.size))
    (W2 : S → va_W) (hr : isR.map (fun i => ws[i]?) = wr.map some) (hnr : va_nd isR = true) (hdis : ∀ i ∈ isR, i ∉ isC) (h2 : ∀ u, pe.map (fun i => (wr ++ W1 u)[i]?) = (W2 u).map some) (hpn : va_nd pe = true)
    (kk : ∀ (u : S) (v : Int) (H1 : Heap) (locs1 : List Loc), v = val u → Φ u → va_P (gD g) vwCl (W2 u) H1 → va_D A (W2 u) → va_S A s.heap H1 locs1 → W p l e R s m args below meth c H1 locs1 (cells + mc) (slots + ms) Q (F0 m (pc + 3) ls (.long (lL v) :: rest))) :
    W p l e R s m args below meth c H locs cells slots Q (F0 m pc ls st0) := by
  have hF := va_free (wc := wc) hD hS hA isC hc
  refine va_calll (hrun (x_pre hC hP hD hS hA isC hc hn)) hS (fun q _ h => hF q h) hF (fun r u t H1 locs1 ht hvm hw hB hz1 hk1 hS1 => ?_)
  obtain ⟨hP1, hD1⟩ := x_post hP hD hS hA isC isR pe hc hr hnr hdis ht hB hk1 (h2 u) hpn
  rw [hw.1]
  exact kk u (val u) H1 locs1 rfl hw.2 hP1 hD1 hS1
end XL
/-- the text of n rings from rg on, in place of the line before -/
def wrN (tp tt sg : Int → Int) (rg : Int) : Nat → Int → Int
  | 0 => sg
  | n + 1 => up (up (up (if (n : Int) = 0 then wrN tp tt sg rg n else up (wrN tp tt sg rg n) (4 * (n : Int) - 1) 32) (4 * (n : Int)) (48 + tp (rg + (n : Int)))) (4 * (n : Int) + 1) 47) (4 * (n : Int) + 2) (48 + tt (rg + (n : Int)))
def wrI (tp tt sg : Int → Int) (rg n : Int) : Int → Int := wrN tp tt sg rg n.toNat
theorem wrI_step (tp tt sg : Int → Int) (rg : Int) {n : Int} (h : 0 ≤ n) : wrI tp tt sg rg (n + 1) = up (up (up (if n = 0 then wrI tp tt sg rg n else up (wrI tp tt sg rg n) (4 * n - 1) 32) (4 * n) (48 + tp (rg + n))) (4 * n + 1) 47) (4 * n + 2) (48 + tt (rg + n)) := by
  unfold wrI
  obtain ⟨k, rfl⟩ := Int.eq_ofNat_of_zero_le h
  rw [show ((k : Int) + 1).toNat = k + 1 by omega, show ((k : Int)).toNat = k by omega]
  rfl
def wrL (n : Int) : Int := if n = 0 then 0 else 4 * n - 1
theorem mxc (a b : Int) : mx a b = if a < b then b else a := rfl
theorem mnI_neg (F : Int → Int) (a s0 : Int) {n : Int} (h : n ≤ 0) : mnI F a s0 n = s0 := by
  unfold mnI; rw [show n.toNat = 0 by omega]; rfl
theorem owedF_r {sk fi la li ra pa : Int → Int} {h : Int} (h1 : bnd sk 0 500000) (h2 : bnd li 0 100) (h3 : bnd ra 0 50) (h4 : bnd pa 0 100000000) : -100000000 ≤ owedF sk fi la li ra pa h ∧ owedF sk fi la li ra pa h ≤ 25000000 := by
  unfold owedF
  have a1 : 0 ≤ mostF sk fi la h ∧ mostF sk fi la h ≤ 500000 := mxI_r h1 (by omega) _ _
  have a2 := h2 h
  have a3 := h3 h
  have a4 := h4 h
  have a5 := mx_r 0 (mostF sk fi la h - li h) rfl
  have a6 := mulb0 (A := 500000) (B := 50) (a := mx 0 (mostF sk fi la h - li h)) (b := ra h) (by omega) a3
  omega
