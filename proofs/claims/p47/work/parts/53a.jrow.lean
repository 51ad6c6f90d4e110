/-! Rows for the JDK's text builder: bytes, shifts by 0, the two texts. -/
theorem nar_y {v : Int} (h0 : 0 ≤ v) (h1 : v < 128) : (iI v).toInt8.toInt32 = iI v := by
  obtain ⟨n, rfl⟩ := Int.eq_ofNat_of_zero_le h0
  rw [← iI_nat]
  have hn : n < 128 := by omega
  have h : ∀ j : Fin 128, (Int32.ofNat j.val).toInt8.toInt32 = Int32.ofNat j.val := by decide +kernel
  exact h ⟨n, hn⟩
theorem fit_y {v : Int} (h0 : 0 ≤ v) (h1 : v < 128) : fits .byte (.int (iI v)) = true := by
  have h := pk_fb (iI v)
  rwa [nar_y h0 h1] at h
section XJ
variable {p : Program} {l : Launch} {e : Env} {R : Room} {s : State} {m : MethodId} {args : Array Value} {below : List Frame} {meth : Method} {c : Code} {H : Heap} {locs : List Loc} {cells slots : Nat} {Q : State → Prop}
variable {cc : ByteArray} {pc : Nat} {ls : Array Slot} {rest st0 : List Value} {g : xg} {A : Nat → Prop} {ws wc wr : va_W} {mc ms : Nat}
theorem x_ishr0 (hx : p.tables.exec = Jvm.exec) (hb : c.code = cc) {a : Int} (d : decode cc pc = .ok (.ishr, 1)) (k : W p l e R s m args below meth c H locs cells slots Q (F0 m (pc + 1) ls (.int (iI a) :: rest))) : W p l e R s m args below meth c H locs cells slots Q (F0 m pc ls (.int (iI 0) :: .int (iI a) :: rest)) :=
  lv_ishr hx hb d (by rw [show iI a >>> (iI 0 &&& 31) = iI a from sb_shr0 (iI a)]; exact k)
theorem x_ishl0 (hx : p.tables.exec = Jvm.exec) (hb : c.code = cc) {a : Int} (d : decode cc pc = .ok (.ishl, 1)) (k : W p l e R s m args below meth c H locs cells slots Q (F0 m (pc + 1) ls (.int (iI a) :: rest))) : W p l e R s m args below meth c H locs cells slots Q (F0 m pc ls (.int (iI 0) :: .int (iI a) :: rest)) :=
  lv_ishl hx hb d (by rw [show iI a <<< (iI 0 &&& 31) = iI a from sb_shl0 (iI a)]; exact k)
theorem x_i2b (hx : p.tables.exec = Jvm.exec) (hb : c.code = cc) {v : Int} (h : 0 ≤ v ∧ v < 128) (d : decode cc pc = .ok (.i2b, 1)) (k : W p l e R s m args below meth c H locs cells slots Q (F0 m (pc + 1) ls (.int (iI v) :: rest))) : W p l e R s m args below meth c H locs cells slots Q (F0 m pc ls (.int (iI v) :: rest)) :=
  lv_i2b hx hb d (nar_y h.1 h.2) k
theorem x_iand255 (hx : p.tables.exec = Jvm.exec) (hb : c.code = cc) {v : Int} (h : 0 ≤ v ∧ v < 128) (d : decode cc pc = .ok (.iand, 1)) (k : W p l e R s m args below meth c H locs cells slots Q (F0 m (pc + 1) ls (.int (iI v) :: rest))) : W p l e R s m args below meth c H locs cells slots Q (F0 m pc ls (.int (iI 255) :: .int (iI v) :: rest)) := by
  refine lv_iand hx hb d ?_
  have e : iI v &&& iI 255 = iI v := by
    obtain ⟨n, rfl⟩ := Int.eq_ofNat_of_zero_le h.1
    have hn : n < 128 := by omega
    have h2 : ∀ j : Fin 128, iI (j.val : Int) &&& iI 255 = iI (j.val : Int) := by decide +kernel
    exact h2 ⟨n, hn⟩
  rw [e]
  exact k
theorem x_balen (hx : p.tables.exec = Jvm.exec) (hb : c.code = cc) (hK : va_K (gD g) vwCl (xTys g) s) (hP : va_P (gD g) vwCl ws H) (q0 : Nat) {aa n : Nat} {F : Int → Int} (ha : ws[q0]? = some (aa, .inl (gB g, n, .inl (ar F)))) (d : decode cc pc = .ok (.arraylength, 1)) (k : W p l e R s m args below meth c H locs cells slots Q (F0 m (pc + 1) ls (.int (iI (n : Int)) :: rest))) : W p l e R s m args below meth c H locs cells slots Q (F0 m pc ls (.ref aa :: rest)) :=
  va_alen (v := iI (n : Int)) hx hb hK hP q0 2 ha rfl (iI_nat n) d k
theorem x_bald (hx : p.tables.exec = Jvm.exec) (hb : c.code = cc) (hK : va_K (gD g) vwCl (xTys g) s) (hP : va_P (gD g) vwCl ws H) (q0 : Nat) {aa n : Nat} {F : Int → Int} (ha : ws[q0]? = some (aa, .inl (gB g, n, .inl (ar F)))) {i : Int} (h0 : 0 ≤ i) (h1 : i < (n : Int)) (hn : n ≤ 2147483647) (d : decode cc pc = .ok (.baload, 1))
    (kk : ∀ v : Int, v = F i → W p l e R s m args below meth c H locs cells slots Q (F0 m (pc + 1) ls (.int (iI v) :: rest))) : W p l e R s m args below meth c H locs cells slots Q (F0 m pc ls (.int (iI i) :: .ref aa :: rest)) :=
  va_bald hx hb hK hP q0 2 ha rfl (iI_in h0 h1 (by omega)) d (by rw [ar_at F h0 (by omega)]; exact kk _ rfl)
theorem x_bast (hx : p.tables.exec = Jvm.exec) (hb : c.code = cc) {H0 : Heap} (hK : va_K (gD g) vwCl (xTys g) s) (hP : va_P (gD g) vwCl ws H) (hD : va_D A ws) (hS : va_S A H0 H locs) (q0 : Nat) {aa n : Nat} {F : Int → Int} (ha : ws[q0]? = some (aa, .inl (gB g, n, .inl (ar F)))) {i v : Int} (h0 : 0 ≤ i) (h1 : i < (n : Int)) (hn : n ≤ 2147483647) (hv : 0 ≤ v ∧ v < 128) (d : decode cc pc = .ok (.bastore, 1))
    (kk : ∀ (H1 : Heap) (locs1 : List Loc), va_P (gD g) vwCl (ws.set q0 (aa, .inl (gB g, n, .inl (ar (up F i v))))) H1 → va_D A (ws.set q0 (aa, .inl (gB g, n, .inl (ar (up F i v))))) → va_S A H0 H1 locs1 → W p l e R s m args below meth c H1 locs1 cells slots Q (F0 m (pc + 1) ls rest)) : W p l e R s m args below meth c H locs cells slots Q (F0 m pc ls (.int (iI v) :: .int (iI i) :: .ref aa :: rest)) :=
  va_bast hx hb hK hP hD hS q0 2 ha rfl (iI_in h0 h1 (by omega)) d (by rw [vp_nar_byte, nar_y hv.1 hv.2, ar_up F v h0 (by omega)]; exact kk)
/-- a row of the JDK's digits -/
theorem x_digit (hx : p.tables.exec = Jvm.exec) (hb : c.code = cc) (hC : xC g A s s.heap) (hS : va_S A s.heap H locs) {i : Int} (h : 0 ≤ i ∧ i ≤ 9) (d : decode cc pc = .ok (.baload, 1)) (k : W p l e R s m args below meth c H locs cells slots Q (F0 m (pc + 1) ls (.int (iI (48 + i)) :: rest))) : W p l e R s m args below meth c H locs cells slots Q (F0 m pc ls (.int (iI i) :: .ref (gO g) :: rest)) :=
  va_tb hx hb hC.d.2.1.2 hS (iI_in (n := 100) h.1 (by omega) (by omega)) (v := .int (iI (48 + i))) (by
    show Value.int (iI (48 + (((iI i).toNatClampNeg : Nat) : Int) % 10)) = .int (iI (48 + i))
    rw [iI_idx h.1 (by omega)]
    congr 2
    omega) d k
theorem x_newB (hx : p.tables.exec = Jvm.exec) (hb : c.code = cc) (harr : (Cond.arrayClass .byte).before args s = true) (hC : xC g A s s.heap) (hP : va_P (gD g) vwCl ws H) (hD : va_D A ws) (hS : va_S A s.heap H locs) (hA : ∀ q : Nat, s.heap.size ≤ q → A q)
    {n : Int} (N M : Nat) (hN : n = (N : Int)) (hM : N ≤ M) (hM2 : M ≤ 1000) (hcells : cells + 1 ≤ R.cells) (hslots : slots + M ≤ R.slots) (hdg : decode cc pc = .ok (.newarray .byte, 2))
    (kk : ∀ (q : Nat) (H1 : Heap), va_P (gD g) vwCl (ws ++ [(q, .inl (gB g, N, .inl (ar (fun _ => 0))))]) H1 → va_D A (ws ++ [(q, .inl (gB g, N, .inl (ar (fun _ => 0))))]) → va_S A s.heap H1 locs →
      W p l e R s m args below meth c H1 locs (cells + 1) (slots + M) Q (F0 m (pc + 2) ls (.ref q :: rest))) : W p l e R s m args below meth c H locs cells slots Q (F0 m pc ls (.int (iI n) :: rest)) := by
  subst hN
  have h1 : ¬ iI (N : Int) < 0 := by
    rw [show (0 : Int32) = iI 0 from rfl, iI_lt ⟨by omega, by omega⟩ ⟨by omega, by omega⟩]
    omega
  have h2 : (iI (N : Int)).toNatClampNeg = N := by
    rw [iI_idx (by omega) (by omega)]
    omega
  have hby : N * 1 ≤ 536870912 := by omega
  have hsl : slots + N ≤ R.slots := by omega
  refine va_newaK (atype := .byte) hx hb harr rfl hdg rfl h1 h2 hby hcells hsl rfl fun H1 cA e1 z1 o1 hAr hNm => ?_
  have hcA : cA = gB g := Option.some.inj (hNm.symm.trans hC.d.2.2.2.2.2.2.1)
  subst hcA
  have hk : ∀ (k : Nat) (x : Nat × va_E), ws[k]? = some x → H1[x.1]? = H[x.1]? := fun k x hx => o1 x.1 ((hP k x hx).lt)
  refine W.widen (k := cells + 1) (n := slots + M) (by omega) (by omega) (kk H.size H1 ((hP.kept hk).app (fun k x hx => ?_)) (hD.push hP rfl (hA _ hS.1)) ⟨Nat.le_trans hS.1 (by omega), fun x h1 h2 => (o1 x (Nat.lt_of_lt_of_le h1 hS.1)).trans (hS.2.1 x h1 h2), hS.2.2⟩)
  have hz : k < 1 := (List.getElem?_eq_some_iff.mp hx).1
  rw [show k = 0 by omega] at hx
  cases hx
  exact e1
/-- what System.arraycopy writes -/
theorem cpy_ar (F G : Int → Int) (sp dp n : Nat) : va_cpy (ar F) (ar G) sp dp n = ar (fun j => if (dp : Int) ≤ j ∧ j < (dp : Int) + (n : Int) then F ((sp : Int) + (j - (dp : Int))) else G j) := by
  funext k
  unfold va_cpy ar
  show _ = iI (if (dp : Int) ≤ (k : Int) ∧ (k : Int) < (dp : Int) + (n : Int) then F ((sp : Int) + ((k : Int) - (dp : Int))) else G (k : Int))
  by_cases h : dp ≤ k ∧ k < dp + n
  · rw [if_pos h, if_pos (by omega)]
    congr 2
    omega
  · rw [if_neg h, if_neg (by omega)]
end XJ
section XK
variable {p : Program} {l : Launch} {e : Env} {R : Room} {s : State} {m : MethodId} {args : Array Value} {below : List Frame} {meth : Method} {c : Code} {H : Heap} {locs : List Loc} {cells slots : Nat} {Q : State → Prop}
variable {cc : ByteArray} {pc : Nat} {ls : Array Slot} {rest st0 : List Value} {g : xg} {A : Nat → Prop} {ws wc wr : va_W} {mc ms : Nat}
theorem ge0 {v : Int} (h : 0 ≤ v) (h2 : v ≤ 2147483647) : ¬ iI v < 0 := by
  rw [show (0 : Int32) = iI 0 from rfl, iI_lt ⟨by omega, by omega⟩ ⟨by omega, by omega⟩]
  omega
theorem x_copyB (hx : p.tables.exec = Jvm.exec) (hb : c.code = cc) (hml : c.maxLocals = ls.size) {own : String} {index : Nat} (hown : s.vm.findClass own = some m.cls) (hlink : (Cond.methodLink own index arraycopyName).before args s = true) (hnat : (Cond.native arraycopyName).before args s = true) (hstat : (Cond.static arraycopyName).before args s = true) (hini : (Cond.initialized "java/lang/System").before args s = true)
    (hK : va_K (gD g) vwCl (xTys g) s) (hP : va_P (gD g) vwCl ws H) (hD : va_D A ws) {H0 : Heap} (hS : va_S A H0 H locs) (q0 q1 : Nat) {a a0 n0 n1 : Nat} {F G : Int → Int} (ha0 : ws[q0]? = some (a0, .inl (gB g, n0, .inl (ar F)))) (ha1 : ws[q1]? = some (a, .inl (gB g, n1, .inl (ar G)))) {n : Int} (h1 : 0 ≤ n) (h2 : n ≤ (n0 : Int)) (h3 : n ≤ (n1 : Int)) (h4 : n0 ≤ 1000) (h5 : n1 ≤ 1000) (hF : bnd F 0 127)
    (hframes : 1 ≤ R.frames) (hlocals : (rest.map fun v => v.category).sum + (nativeFrameWords "java/lang/System" "arraycopy" 5 + 11) ≤ R.locals) (hdg : decode cc pc = .ok (.invokestatic index, 3))
    (kk : ∀ (H1 : Heap) (locs1 : List Loc), va_P (gD g) vwCl (ws.set q1 (a, .inl (gB g, n1, .inl (ar (ovr G n F))))) H1 → va_D A (ws.set q1 (a, .inl (gB g, n1, .inl (ar (ovr G n F))))) → va_S A H0 H1 locs1 → W p l e R s m args below meth c H1 locs1 cells slots Q (F0 m (pc + 3) ls rest)) : W p l e R s m args below meth c H locs cells slots Q (F0 m pc ls (.int (iI n) :: .int (iI 0) :: .ref a :: .int (iI 0) :: .ref a0 :: rest)) := by
  have e0 : (iI 0).toNatClampNeg = 0 := by decide
  have en : (iI n).toNatClampNeg = n.toNat := iI_idx h1 (by omega)
  refine va_copyi hx hb hml hown hlink hnat hstat hini hK hP hD hS q0 q1 2 2 ha0 ha1 rfl rfl rfl (ge0 (by omega) (by omega)) (ge0 (by omega) (by omega)) (ge0 h1 (by omega)) (by rw [e0, en]; omega) (by rw [e0, en]; omega) (fun i _ => fit_y (hF _).1 (by have := hF (((iI 0).toNatClampNeg + i : Nat) : Int); omega)) hframes hlocals hdg ?_
  have e : va_cpy (ar F) (ar G) (iI 0).toNatClampNeg (iI 0).toNatClampNeg (iI n).toNatClampNeg = ar (ovr G n F) := by
    rw [e0, en, cpy_ar]
    congr 1
    funext j
    unfold ovr
    by_cases h : 0 ≤ j ∧ j < n
    · rw [if_pos h, if_pos (by omega)]
      congr 1
      omega
    · rw [if_neg h, if_neg (by omega)]
  rw [e]
  exact kk
theorem x_copyS0 (hx : p.tables.exec = Jvm.exec) (hb : c.code = cc) (hml : c.maxLocals = ls.size) {own : String} {index : Nat} (hown : s.vm.findClass own = some m.cls) (hlink : (Cond.methodLink own index arraycopyName).before args s = true) (hnat : (Cond.native arraycopyName).before args s = true) (hstat : (Cond.static arraycopyName).before args s = true) (hini : (Cond.initialized "java/lang/System").before args s = true)
    (hC : xC g A s s.heap) (hP : va_P (gD g) vwCl ws H) (hD : va_D A ws) (hS : va_S A s.heap H locs) (q1 : Nat) {a n1 : Nat} {G : Int → Int} (ha1 : ws[q1]? = some (a, .inl (gB g, n1, .inl (ar G)))) {dp : Int} (h1 : 0 ≤ dp ∧ dp ≤ 1000) (h2 : dp ≤ (n1 : Int))
    (hframes : 1 ≤ R.frames) (hlocals : (rest.map fun v => v.category).sum + (nativeFrameWords "java/lang/System" "arraycopy" 5 + 11) ≤ R.locals) (hdg : decode cc pc = .ok (.invokestatic index, 3))
    (kk : ∀ (H1 : Heap) (locs1 : List Loc), va_P (gD g) vwCl (ws.set q1 (a, .inl (gB g, n1, .inl (ar G)))) H1 → va_D A (ws.set q1 (a, .inl (gB g, n1, .inl (ar G)))) → va_S A s.heap H1 locs1 → W p l e R s m args below meth c H1 locs1 cells slots Q (F0 m (pc + 3) ls rest)) : W p l e R s m args below meth c H locs cells slots Q (F0 m pc ls (.int (iI 0) :: .int (iI dp) :: .ref a :: .int (iI 0) :: .ref (gV g 0) :: rest)) := by
  have e0 : (iI 0).toNatClampNeg = 0 := by decide
  have ed : (iI dp).toNatClampNeg = dp.toNat := iI_idx h1.1 (by omega)
  refine vk_copyt hx hb hml hown hlink hnat hstat hini hC.1 hP hD hS (hC.d.2.2.1.1 0 (by decide)).2.2.2 q1 2 ha1 rfl (ge0 (by omega) (by omega)) (ge0 h1.1 (by omega)) (ge0 (by omega) (by omega)) (by rw [e0]; decide) (by rw [e0, ed]; omega) (fun i hi => absurd hi (by rw [e0]; exact Nat.not_lt_zero _)) hframes hlocals hdg ?_
  have e : ∀ f : Nat → Int32, va_cpy f (ar G) (iI 0).toNatClampNeg (iI dp).toNatClampNeg (iI 0).toNatClampNeg = ar G := by
    intro f
    rw [e0]
    funext k
    unfold va_cpy
    rw [if_neg (by omega)]
  rw [e]
  exact kk
theorem x_copyS1 (hx : p.tables.exec = Jvm.exec) (hb : c.code = cc) (hml : c.maxLocals = ls.size) {own : String} {index : Nat} (hown : s.vm.findClass own = some m.cls) (hlink : (Cond.methodLink own index arraycopyName).before args s = true) (hnat : (Cond.native arraycopyName).before args s = true) (hstat : (Cond.static arraycopyName).before args s = true) (hini : (Cond.initialized "java/lang/System").before args s = true)
    (hC : xC g A s s.heap) (hP : va_P (gD g) vwCl ws H) (hD : va_D A ws) (hS : va_S A s.heap H locs) (q1 : Nat) {a n1 : Nat} {G : Int → Int} (ha1 : ws[q1]? = some (a, .inl (gB g, n1, .inl (ar G)))) {dp : Int} (h1 : 0 ≤ dp ∧ dp ≤ 1000) (h2 : dp + 1 ≤ (n1 : Int))
    (hframes : 1 ≤ R.frames) (hlocals : (rest.map fun v => v.category).sum + (nativeFrameWords "java/lang/System" "arraycopy" 5 + 11) ≤ R.locals) (hdg : decode cc pc = .ok (.invokestatic index, 3))
    (kk : ∀ (H1 : Heap) (locs1 : List Loc), va_P (gD g) vwCl (ws.set q1 (a, .inl (gB g, n1, .inl (ar (up G dp 32))))) H1 → va_D A (ws.set q1 (a, .inl (gB g, n1, .inl (ar (up G dp 32))))) → va_S A s.heap H1 locs1 → W p l e R s m args below meth c H1 locs1 cells slots Q (F0 m (pc + 3) ls rest)) : W p l e R s m args below meth c H locs cells slots Q (F0 m pc ls (.int (iI 1) :: .int (iI dp) :: .ref a :: .int (iI 0) :: .ref (gV g 1) :: rest)) := by
  have e0 : (iI 0).toNatClampNeg = 0 := by decide
  have e1 : (iI 1).toNatClampNeg = 1 := by decide
  have ed : (iI dp).toNatClampNeg = dp.toNat := iI_idx h1.1 (by omega)
  refine vk_copyt hx hb hml hown hlink hnat hstat hini hC.1 hP hD hS (hC.d.2.2.1.1 1 (by decide)).2.2.2 q1 2 ha1 rfl (ge0 (by omega) (by omega)) (ge0 h1.1 (by omega)) (ge0 (by omega) (by omega)) (by rw [e0, e1]; decide) (by rw [e1, ed]; omega) (fun i hi => ?_) hframes hlocals hdg ?_
  · rw [e1] at hi
    obtain rfl : i = 0 := by omega
    decide
  have e : va_cpy (fun j => (([[], [32]] : List (List Int32)).getD 1 []).getD j 0) (ar G) (iI 0).toNatClampNeg (iI dp).toNatClampNeg (iI 1).toNatClampNeg = ar (up G dp 32) := by
    rw [e0, e1, ed]
    funext k
    unfold va_cpy ar up
    by_cases h : k = dp.toNat
    · rw [if_pos (by omega), if_pos (by omega), h, show 0 + (dp.toNat - dp.toNat) = 0 by omega]
      decide
    · rw [if_neg (by omega), if_neg (by omega)]
  rw [e]
  exact kk
end XK
