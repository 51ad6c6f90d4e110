/-! Small rows of the law's own methods. -/
theorem iI_nat (n : Nat) : Int32.ofNat n = iI (n : Int) := Int32.ofInt_eq_ofNat.symm
theorem xC.d {g : xg} {A : Nat → Prop} {U : State} {H : Heap} (h : xC g A U H) : xD g A U H := h.2.2.2.2.2.2.2.2.2.2.2.2
theorem up_at (F : Int → Int) {k j : Int} (v : Int) (h : j = k) : up F k v j = v := by rw [h]; exact up_eq F k v
section XR
variable {p : Program} {l : Launch} {e : Env} {R : Room} {s : State} {m : MethodId} {args : Array Value} {below : List Frame} {meth : Method} {c : Code} {H : Heap} {locs : List Loc} {cells slots : Nat} {Q : State → Prop}
variable {cc : ByteArray} {pc : Nat} {ls : Array Slot} {rest st0 : List Value} {g : xg} {A : Nat → Prop} {ws wc wr : va_W} {mc ms : Nat}
theorem x_any {x : Int32} (kk : ∀ v : Int, iR v → W p l e R s m args below meth c H locs cells slots Q (F0 m pc ls (.int (iI v) :: rest))) : W p l e R s m args below meth c H locs cells slots Q (F0 m pc ls (.int x :: rest)) := by
  have h := kk x.toInt (iR_toInt _)
  rw [iI_of] at h
  exact h
theorem x_iushr (hx : p.tables.exec = Jvm.exec) (hb : c.code = cc) {a b : Int} (d : decode cc pc = .ok (.iushr, 1)) (kk : ∀ v : Int, iR v → W p l e R s m args below meth c H locs cells slots Q (F0 m (pc + 1) ls (.int (iI v) :: rest))) : W p l e R s m args below meth c H locs cells slots Q (F0 m pc ls (.int (iI b) :: .int (iI a) :: rest)) :=
  lv_iushr hx hb d rfl (x_any kk)
theorem x_ixor (hx : p.tables.exec = Jvm.exec) (hb : c.code = cc) {a b : Int} (d : decode cc pc = .ok (.ixor, 1)) (kk : ∀ v : Int, iR v → W p l e R s m args below meth c H locs cells slots Q (F0 m (pc + 1) ls (.int (iI v) :: rest))) : W p l e R s m args below meth c H locs cells slots Q (F0 m pc ls (.int (iI b) :: .int (iI a) :: rest)) :=
  lv_ixor hx hb d (x_any kk)
theorem x_iandM (hx : p.tables.exec = Jvm.exec) (hb : c.code = cc) {a : Int} (d : decode cc pc = .ok (.iand, 1)) (kk : ∀ v : Int, (0 ≤ v ∧ v ≤ 2147483647) → W p l e R s m args below meth c H locs cells slots Q (F0 m (pc + 1) ls (.int (iI v) :: rest))) : W p l e R s m args below meth c H locs cells slots Q (F0 m pc ls (.int (iI 2147483647) :: .int (iI a) :: rest)) := by
  refine lv_iand hx hb d ?_
  rw [pk_and (iI a) (m := iI 2147483647) 31 (by decide)]
  unfold nI
  rw [iI_nat]
  have h : (iI a).toBitVec.toNat % 2 ^ 31 < 2 ^ 31 := Nat.mod_lt _ (by decide)
  exact kk _ ⟨by omega, by omega⟩
theorem x_iand1 (hx : p.tables.exec = Jvm.exec) (hb : c.code = cc) {a b : Int} (ha : a = 1) (hb2 : b = 1) (d : decode cc pc = .ok (.iand, 1)) (kk : W p l e R s m args below meth c H locs cells slots Q (F0 m (pc + 1) ls (.int (iI 1) :: rest))) : W p l e R s m args below meth c H locs cells slots Q (F0 m pc ls (.int (iI b) :: .int (iI a) :: rest)) := by
  subst ha hb2
  refine lv_iand hx hb d ?_
  rw [show iI 1 &&& iI 1 = iI 1 by decide]
  exact kk
theorem x_ineg (hx : p.tables.exec = Jvm.exec) (hb : c.code = cc) {a : Int} (d : decode cc pc = .ok (.ineg, 1)) (k : W p l e R s m args below meth c H locs cells slots Q (F0 m (pc + 1) ls (.int (iI (-a)) :: rest))) : W p l e R s m args below meth c H locs cells slots Q (F0 m pc ls (.int (iI a) :: rest)) :=
  lv_ineg hx hb d (by rw [show -iI a = iI (-a) from (Int32.ofInt_neg a).symm]; exact k)
theorem x_fcmpE (hx : p.tables.exec = Jvm.exec) (hb : c.code = cc) {x y : UInt32} {op : CmpOp} (h : x = y) (hn : FP.Core.val32 y ≠ .nan) (d : decode cc pc = .ok (.fcmp op, 1)) (k : W p l e R s m args below meth c H locs cells slots Q (F0 m (pc + 1) ls (.int (iI 0) :: rest))) : W p l e R s m args below meth c H locs cells slots Q (F0 m pc ls (.float y :: .float x :: rest)) := by
  subst h
  refine lv_fcmp hx hb d ?_
  rw [show FP.fcmp x x = some .eq from FP.Core.fcmp_self hn]
  exact k
/-- the script -/
theorem x_slen (hx : p.tables.exec = Jvm.exec) (hb : c.code = cc) (hC : xC g A s s.heap) (hS : va_S A s.heap H locs) (hN : gN g ≤ 260) (d : decode cc pc = .ok (.arraylength, 1)) (k : W p l e R s m args below meth c H locs cells slots Q (F0 m (pc + 1) ls (.int (iI (gN g : Int)) :: rest))) : W p l e R s m args below meth c H locs cells slots Q (F0 m pc ls (.ref (gS g) :: rest)) :=
  va_tlen hx hb hC.d.2.2.2.2.1 hS (v := iI (gN g : Int)) (by rw [iI_nat]) d k
theorem x_sld (hx : p.tables.exec = Jvm.exec) (hb : c.code = cc) (hC : xC g A s s.heap) (hS : va_S A s.heap H locs) (hN : gN g ≤ 260) {i : Int} (h0 : 0 ≤ i) (h1 : i < (gN g : Int)) (d : decode cc pc = .ok (.iaload, 1)) (kk : ∀ v : Int, iR v → W p l e R s m args below meth c H locs cells slots Q (F0 m (pc + 1) ls (.int (iI v) :: rest))) : W p l e R s m args below meth c H locs cells slots Q (F0 m pc ls (.int (iI i) :: .ref (gS g) :: rest)) :=
  va_ti hx hb hC.d.2.2.2.2.1 hS (iI_in h0 h1 (by omega)) (v := .int (gX g (iI i).toNatClampNeg)) rfl d (x_any kk)
/-- references that are returned -/
theorem x_aret {rt : FieldType} (hx : p.tables.exec = Jvm.exec) (hb : c.code = cc) (hr : meth.sig.returnType = some rt) (hrt : (∃ n, rt = .object n) ∨ ∃ t, rt = .array t) (hlocks : meth.locks = false) (hP : va_P (gD g) vwCl ws H) (hD : va_D A ws) (hS : va_S A s.heap H locs) {S : Type} {adr : S → Nat} {Φ : S → Prop} {W1 : S → va_W} {v : Nat} (d : decode cc pc = .ok (.areturn, 1)) (u : S) (hv : v = adr u) (hu : Φ u) (hW : ws = W1 u) (h1 : cells ≤ mc) (h2 : slots ≤ ms) :
    W p l e R s m args below meth c H locs cells slots (MQ below (va_Qr Φ (fun u a t => a = adr u ∧ xE g A (W1 u) t) A) args s mc ms A) (F0 m pc ls [.ref v]) := by
  refine W.widen (k := mc) (n := ms) h1 h2 ?_
  exact W.aret (v := .ref v) hx hb hr hrt (Or.inr ⟨v, rfl⟩) (fun t ht hW9 => ⟨⟨u, v, rfl, hu, hv, ⟨by rw [ht, ← hW]; exact hP, by rw [← hW]; exact hD⟩⟩, hS.F ht⟩) hS.2.2 d
theorem x_callr {S : Type} {adr : S → Nat} {Φ : S → Prop} {W1 : S → va_W} {a : Array Value} (hC : xC g A s s.heap) (hP : va_P (gD g) vwCl ws H) (hD : va_D A ws) (hS : va_S A s.heap H locs) (hA : ∀ q : Nat, s.heap.size ≤ q → A q)
    (isC isR pe : List Nat) (hc : isC.map (fun i => ws[i]?) = wc.map some) (hn : va_nd isC = true)
    (hrun : (∀ av : List Value, ∀ U : State, U.heap = H → s.WarmedH U.vm → va_Pc av (xB g wc H.size) av.toArray U) → va_Run p l e R s m args below meth c H locs cells slots mc ms (F0 m pc ls st0) rest (va_Qr Φ (fun u a t => a = adr u ∧ xE g (va_A wc H.size) (W1 u) t) (va_A wc H.size) a) (va_A wc H.size))
    (W2 : S → va_W) (hr : isR.map (fun i => ws[i]?) = wr.map some) (hnr : va_nd isR = true) (hdis : ∀ i ∈ isR, i ∉ isC) (h2 : ∀ u, pe.map (fun i => (wr ++ W1 u)[i]?) = (W2 u).map some) (hpn : va_nd pe = true)
    (kk : ∀ (u : S) (H1 : Heap) (locs1 : List Loc), Φ u → va_P (gD g) vwCl (W2 u) H1 → va_D A (W2 u) → va_S A s.heap H1 locs1 → W p l e R s m args below meth c H1 locs1 (cells + mc) (slots + ms) Q (F0 m (pc + 3) ls (.ref (adr u) :: rest))) :
    W p l e R s m args below meth c H locs cells slots Q (F0 m pc ls st0) := by
  have hF := va_free (wc := wc) hD hS hA isC hc
  refine va_callr (hrun (x_pre hC hP hD hS hA isC hc hn)) hS (fun q _ h => hF q h) hF (fun u ra t H1 locs1 ht hvm hw hB hz1 hk1 hS1 => ?_)
  obtain ⟨hP1, hD1⟩ := x_post hP hD hS hA isC isR pe hc hr hnr hdis ht hB.2 hk1 (h2 u) hpn
  rw [hB.1]
  exact kk u H1 locs1 hw hP1 hD1 hS1
end XR
