set_option maxHeartbeats 16000000 in
set_option maxRecDepth 100000 in
theorem c_L_areRings (l : Launch) (hflags : l.stackTraces = false) (g : xg) (sz : Nat) (aR aG aP aH aY aT aS aF aX aGn aGw aGs aPx aPy aYh aYt aYc aTp aTt aTx aTy aE aN : Nat) (pr tk tol hou kn pn ld fx fy fhx fhy : Int) (nd wk bx byy ht yt yc tp tt kx ky F : Int → Int) (bu : Int) (hkn : 0 ≤ kn ∧ kn ≤ 200) (hpn : 0 ≤ pn ∧ pn ≤ 200) (hld : 0 ≤ ld ∧ ld ≤ 200) (hldk : ld ≤ kn) (hhou : 0 ≤ hou ∧ hou ≤ 5000) (hpr : 0 ≤ pr ∧ pr ≤ 100) (htk : 0 ≤ tk ∧ tk ≤ 1000) (hb_nd : bnd nd 0 100) (hb_wk : bnd wk 0 20) (hb_bx : bnd bx (-5) 5) (hb_byy : bnd byy (-5) 5) (hb_tp : bnd tp 0 7) (hb_tt : bnd tt 0 9) (hb_yt : bnd yt 0 9) (hb_yc : bnd yc 0 5000) (hb_ht : bnd ht 0 12) (hb_kx : bnd kx (-400000) 400000) (hb_ky : bnd ky (-400000) 400000) (hkx : ∀ k : Int, 0 ≤ k → k < ld → kx k = lnO tt tp toSide (k + 1)) (hky : ∀ k : Int, 0 ≤ k → k < ld → ky k = lnO tt tp upward (k + 1)) (hN : NI F kn pn ld bu hou pr tk tol nd wk bx byy ht yt yc tp tt kx ky) : Met l yL_areRings wsL_areRings { frames := 9, cells := 2000, slots := 14000, locals := 157 } (va_Pc [.ref aR, .ref aN] (xB g [(aR, .inr (11, [.ref aG, .ref aP, .ref aH, .ref aY, .ref aT, .ref aS, .ref aF, .ref aX, .int (iI pr), .int (iI tk), .int (iI tol), .int (iI hou)])), (aG, .inr (4, [.ref aGn, .ref aGw, .ref aGs, .int (iI kn)])), (aGn, .inl (gI g, 200, .inl (ar nd))), (aGw, .inl (gI g, 200, .inl (ar wk))), (aP, .inr (6, [.ref aPx, .ref aPy, .int (iI pn)])), (aPx, .inl (gI g, 200, .inl (ar bx))), (aPy, .inl (gI g, 200, .inl (ar byy))), (aY, .inr (10, [.ref aYh, .ref aYt, .ref aYc])), (aYh, .inl (gI g, 3, .inl (ar ht))), (aYt, .inl (gI g, 36, .inl (ar yt))), (aYc, .inl (gI g, 36, .inl (ar yc))), (aT, .inr (9, [.ref aTp, .ref aTt, .ref aTx, .ref aTy, .ref aE, .int (iI ld)])), (aTp, .inl (gI g, 200, .inl (ar tp))), (aTt, .inl (gI g, 200, .inl (ar tt))), (aTx, .inl (gI g, 200, .inl (ar kx))), (aTy, .inl (gI g, 200, .inl (ar ky))), (aF, .inr (3, [.int (iI fx), .int (iI fy), .int (iI fhx), .int (iI fhy)])), (aN, .inl (gI g, 1960, .inl (ar F)))] sz)) (va_Qi (fun r u => r = iI ((fun (u : Int × Int × Int × Int) => bI (True)) u) ∧ (fun (u : Int × Int × Int × Int) => True) u) (fun u t => xE g (va_A [(aR, .inr (11, [.ref aG, .ref aP, .ref aH, .ref aY, .ref aT, .ref aS, .ref aF, .ref aX, .int (iI pr), .int (iI tk), .int (iI tol), .int (iI hou)])), (aG, .inr (4, [.ref aGn, .ref aGw, .ref aGs, .int (iI kn)])), (aGn, .inl (gI g, 200, .inl (ar nd))), (aGw, .inl (gI g, 200, .inl (ar wk))), (aP, .inr (6, [.ref aPx, .ref aPy, .int (iI pn)])), (aPx, .inl (gI g, 200, .inl (ar bx))), (aPy, .inl (gI g, 200, .inl (ar byy))), (aY, .inr (10, [.ref aYh, .ref aYt, .ref aYc])), (aYh, .inl (gI g, 3, .inl (ar ht))), (aYt, .inl (gI g, 36, .inl (ar yt))), (aYc, .inl (gI g, 36, .inl (ar yc))), (aT, .inr (9, [.ref aTp, .ref aTt, .ref aTx, .ref aTy, .ref aE, .int (iI ld)])), (aTp, .inl (gI g, 200, .inl (ar tp))), (aTt, .inl (gI g, 200, .inl (ar tt))), (aTx, .inl (gI g, 200, .inl (ar kx))), (aTy, .inl (gI g, 200, .inl (ar ky))), (aF, .inr (3, [.int (iI fx), .int (iI fy), .int (iI fhx), .int (iI fhy)])), (aN, .inl (gI g, 1960, .inl (ar F)))] sz) ((fun (u : Int × Int × Int × Int) => [(aR, .inr (11, [.ref aG, .ref aP, .ref aH, .ref aY, .ref aT, .ref aS, .ref aF, .ref aX, .int (iI pr), .int (iI tk), .int (iI tol), .int (iI hou)])), (aG, .inr (4, [.ref aGn, .ref aGw, .ref aGs, .int (iI kn)])), (aGn, .inl (gI g, 200, .inl (ar nd))), (aGw, .inl (gI g, 200, .inl (ar wk))), (aP, .inr (6, [.ref aPx, .ref aPy, .int (iI pn)])), (aPx, .inl (gI g, 200, .inl (ar bx))), (aPy, .inl (gI g, 200, .inl (ar byy))), (aY, .inr (10, [.ref aYh, .ref aYt, .ref aYc])), (aYh, .inl (gI g, 3, .inl (ar ht))), (aYt, .inl (gI g, 36, .inl (ar yt))), (aYc, .inl (gI g, 36, .inl (ar yc))), (aT, .inr (9, [.ref aTp, .ref aTt, .ref aTx, .ref aTy, .ref aE, .int (iI ld)])), (aTp, .inl (gI g, 200, .inl (ar tp))), (aTt, .inl (gI g, 200, .inl (ar tt))), (aTx, .inl (gI g, 200, .inl (ar kx))), (aTy, .inl (gI g, 200, .inl (ar ky))), (aF, .inr (3, [.int (iI u.1), .int (iI u.2.1), .int (iI u.2.2.1), .int (iI u.2.2.2)])), (aN, .inl (gI g, 1960, .inl (ar F)))]) u) t) (va_A [(aR, .inr (11, [.ref aG, .ref aP, .ref aH, .ref aY, .ref aT, .ref aS, .ref aF, .ref aX, .int (iI pr), .int (iI tk), .int (iI tol), .int (iI hou)])), (aG, .inr (4, [.ref aGn, .ref aGw, .ref aGs, .int (iI kn)])), (aGn, .inl (gI g, 200, .inl (ar nd))), (aGw, .inl (gI g, 200, .inl (ar wk))), (aP, .inr (6, [.ref aPx, .ref aPy, .int (iI pn)])), (aPx, .inl (gI g, 200, .inl (ar bx))), (aPy, .inl (gI g, 200, .inl (ar byy))), (aY, .inr (10, [.ref aYh, .ref aYt, .ref aYc])), (aYh, .inl (gI g, 3, .inl (ar ht))), (aYt, .inl (gI g, 36, .inl (ar yt))), (aYc, .inl (gI g, 36, .inl (ar yc))), (aT, .inr (9, [.ref aTp, .ref aTt, .ref aTx, .ref aTy, .ref aE, .int (iI ld)])), (aTp, .inl (gI g, 200, .inl (ar tp))), (aTt, .inl (gI g, 200, .inl (ar tt))), (aTx, .inl (gI g, 200, .inl (ar kx))), (aTy, .inl (gI g, 200, .inl (ar ky))), (aF, .inr (3, [.int (iI fx), .int (iI fy), .int (iI fhx), .int (iI fhy)])), (aN, .inl (gI g, 1960, .inl (ar F)))] sz)) 2000 14000 (va_A [(aR, .inr (11, [.ref aG, .ref aP, .ref aH, .ref aY, .ref aT, .ref aS, .ref aF, .ref aX, .int (iI pr), .int (iI tk), .int (iI tol), .int (iI hou)])), (aG, .inr (4, [.ref aGn, .ref aGw, .ref aGs, .int (iI kn)])), (aGn, .inl (gI g, 200, .inl (ar nd))), (aGw, .inl (gI g, 200, .inl (ar wk))), (aP, .inr (6, [.ref aPx, .ref aPy, .int (iI pn)])), (aPx, .inl (gI g, 200, .inl (ar bx))), (aPy, .inl (gI g, 200, .inl (ar byy))), (aY, .inr (10, [.ref aYh, .ref aYt, .ref aYc])), (aYh, .inl (gI g, 3, .inl (ar ht))), (aYt, .inl (gI g, 36, .inl (ar yt))), (aYc, .inl (gI g, 36, .inl (ar yc))), (aT, .inr (9, [.ref aTp, .ref aTt, .ref aTx, .ref aTy, .ref aE, .int (iI ld)])), (aTp, .inl (gI g, 200, .inl (ar tp))), (aTt, .inl (gI g, 200, .inl (ar tt))), (aTx, .inl (gI g, 200, .inl (ar kx))), (aTy, .inl (gI g, 200, .inl (ar ky))), (aF, .inr (3, [.int (iI fx), .int (iI fy), .int (iI fhx), .int (iI fhy)])), (aN, .inl (gI g, 1960, .inl (ar F)))] sz) := by
  refine x_enter (y := yL_areRings) (ws := wsL_areRings) (g := g) (sz := sz) (av := [.ref aR, .ref aN]) (WS := [(aR, .inr (11, [.ref aG, .ref aP, .ref aH, .ref aY, .ref aT, .ref aS, .ref aF, .ref aX, .int (iI pr), .int (iI tk), .int (iI tol), .int (iI hou)])), (aG, .inr (4, [.ref aGn, .ref aGw, .ref aGs, .int (iI kn)])), (aGn, .inl (gI g, 200, .inl (ar nd))), (aGw, .inl (gI g, 200, .inl (ar wk))), (aP, .inr (6, [.ref aPx, .ref aPy, .int (iI pn)])), (aPx, .inl (gI g, 200, .inl (ar bx))), (aPy, .inl (gI g, 200, .inl (ar byy))), (aY, .inr (10, [.ref aYh, .ref aYt, .ref aYc])), (aYh, .inl (gI g, 3, .inl (ar ht))), (aYt, .inl (gI g, 36, .inl (ar yt))), (aYc, .inl (gI g, 36, .inl (ar yc))), (aT, .inr (9, [.ref aTp, .ref aTt, .ref aTx, .ref aTy, .ref aE, .int (iI ld)])), (aTp, .inl (gI g, 200, .inl (ar tp))), (aTt, .inl (gI g, 200, .inl (ar tt))), (aTx, .inl (gI g, 200, .inl (ar kx))), (aTy, .inl (gI g, 200, .inl (ar ky))), (aF, .inr (3, [.int (iI fx), .int (iI fy), .int (iI fhx), .int (iI fhy)])), (aN, .inl (gI g, 1960, .inl (ar F)))]) (cc := cL_areRings) (maxL := 8) (ret := some .boolean) (Qc := (fun A => (va_Qi (fun r u => r = iI ((fun (u : Int × Int × Int × Int) => bI (True)) u) ∧ (fun (u : Int × Int × Int × Int) => True) u) (fun u t => xE g A ((fun (u : Int × Int × Int × Int) => [(aR, .inr (11, [.ref aG, .ref aP, .ref aH, .ref aY, .ref aT, .ref aS, .ref aF, .ref aX, .int (iI pr), .int (iI tk), .int (iI tol), .int (iI hou)])), (aG, .inr (4, [.ref aGn, .ref aGw, .ref aGs, .int (iI kn)])), (aGn, .inl (gI g, 200, .inl (ar nd))), (aGw, .inl (gI g, 200, .inl (ar wk))), (aP, .inr (6, [.ref aPx, .ref aPy, .int (iI pn)])), (aPx, .inl (gI g, 200, .inl (ar bx))), (aPy, .inl (gI g, 200, .inl (ar byy))), (aY, .inr (10, [.ref aYh, .ref aYt, .ref aYc])), (aYh, .inl (gI g, 3, .inl (ar ht))), (aYt, .inl (gI g, 36, .inl (ar yt))), (aYc, .inl (gI g, 36, .inl (ar yc))), (aT, .inr (9, [.ref aTp, .ref aTt, .ref aTx, .ref aTy, .ref aE, .int (iI ld)])), (aTp, .inl (gI g, 200, .inl (ar tp))), (aTt, .inl (gI g, 200, .inl (ar tt))), (aTx, .inl (gI g, 200, .inl (ar kx))), (aTy, .inl (gI g, 200, .inl (ar ky))), (aF, .inr (3, [.int (iI u.1), .int (iI u.2.1), .int (iI u.2.2.1), .int (iI u.2.2.2)])), (aN, .inl (gI g, 1960, .inl (ar F)))]) u) t) A))) (by decide) rfl (Nat.le_of_ble_eq_true rfl) ?_
  intro p e s m args below meth c A ls hx hb hr hml hown hts hlocks hname hC hP hD hS hA hl
  have hK := hC.1
  have hown : s.vm.findClass RL = some m.cls := hown
  have hl : lv_has ls 8 [(0, .ref aR), (1, .ref aN)] := hl
  obtain ⟨H, hH⟩ : ∃ z, z = s.heap := ⟨_, rfl⟩
  obtain ⟨locs, hlo⟩ : ∃ z : List Loc, z = [] := ⟨_, rfl⟩
  obtain ⟨Q9, hQ9⟩ : ∃ z, z = MQ below (va_Qi (fun r u => r = iI ((fun (u : Int × Int × Int × Int) => bI (True)) u) ∧ (fun (u : Int × Int × Int × Int) => True) u) (fun u t => xE g A ((fun (u : Int × Int × Int × Int) => [(aR, .inr (11, [.ref aG, .ref aP, .ref aH, .ref aY, .ref aT, .ref aS, .ref aF, .ref aX, .int (iI pr), .int (iI tk), .int (iI tol), .int (iI hou)])), (aG, .inr (4, [.ref aGn, .ref aGw, .ref aGs, .int (iI kn)])), (aGn, .inl (gI g, 200, .inl (ar nd))), (aGw, .inl (gI g, 200, .inl (ar wk))), (aP, .inr (6, [.ref aPx, .ref aPy, .int (iI pn)])), (aPx, .inl (gI g, 200, .inl (ar bx))), (aPy, .inl (gI g, 200, .inl (ar byy))), (aY, .inr (10, [.ref aYh, .ref aYt, .ref aYc])), (aYh, .inl (gI g, 3, .inl (ar ht))), (aYt, .inl (gI g, 36, .inl (ar yt))), (aYc, .inl (gI g, 36, .inl (ar yc))), (aT, .inr (9, [.ref aTp, .ref aTt, .ref aTx, .ref aTy, .ref aE, .int (iI ld)])), (aTp, .inl (gI g, 200, .inl (ar tp))), (aTt, .inl (gI g, 200, .inl (ar tt))), (aTx, .inl (gI g, 200, .inl (ar kx))), (aTy, .inl (gI g, 200, .inl (ar ky))), (aF, .inr (3, [.int (iI u.1), .int (iI u.2.1), .int (iI u.2.2.1), .int (iI u.2.2.2)])), (aN, .inl (gI g, 1960, .inl (ar F)))]) u) t) A) args s 2000 14000 A := ⟨_, rfl⟩
  have hP : va_P (gD g) vwCl [(aR, .inr (11, [.ref aG, .ref aP, .ref aH, .ref aY, .ref aT, .ref aS, .ref aF, .ref aX, .int (iI pr), .int (iI tk), .int (iI tol), .int (iI hou)])), (aG, .inr (4, [.ref aGn, .ref aGw, .ref aGs, .int (iI kn)])), (aGn, .inl (gI g, 200, .inl (ar nd))), (aGw, .inl (gI g, 200, .inl (ar wk))), (aP, .inr (6, [.ref aPx, .ref aPy, .int (iI pn)])), (aPx, .inl (gI g, 200, .inl (ar bx))), (aPy, .inl (gI g, 200, .inl (ar byy))), (aY, .inr (10, [.ref aYh, .ref aYt, .ref aYc])), (aYh, .inl (gI g, 3, .inl (ar ht))), (aYt, .inl (gI g, 36, .inl (ar yt))), (aYc, .inl (gI g, 36, .inl (ar yc))), (aT, .inr (9, [.ref aTp, .ref aTt, .ref aTx, .ref aTy, .ref aE, .int (iI ld)])), (aTp, .inl (gI g, 200, .inl (ar tp))), (aTt, .inl (gI g, 200, .inl (ar tt))), (aTx, .inl (gI g, 200, .inl (ar kx))), (aTy, .inl (gI g, 200, .inl (ar ky))), (aF, .inr (3, [.int (iI fx), .int (iI fy), .int (iI fhx), .int (iI fhy)])), (aN, .inl (gI g, 1960, .inl (ar F)))] H := by rw [hH]; exact hP
  have hS : va_S A s.heap H locs := by rw [hH, hlo]; exact hS
  have goal_ : W p l e { frames := 9, cells := 2000, slots := 14000, locals := 157 } s m args below meth c H locs 0 0 Q9 (F0 m 0 ls []) := by
    clear hH hlo
    have hN0 := hN
    obtain ⟨⟨n0, n1, n2, n3, n4, n5, n6, n7⟩, n10, n20, n220, n420, n620, n1020, n1220, n1420, n1620, nst⟩ := hN0
    refine x_iconst hx hb dL_areRings_0 ?_
    refine lv_istore_n (lv' := [(2, .int (iI 0)), (0, .ref aR), (1, .ref aN)]) hx hb dL_areRings_1 rfl hl (by decide) rfl (fun ls hl => ?_)
    have lp2 : ∀ (n : Nat) (zk : Int) (zfx : Int) (zfy : Int) (zfhx : Int) (zfhy : Int), ∀ (cz2 sz2 : Nat), cz2 + 8 * n ≤ 1620 → sz2 + 48 * n ≤ 9720 → (0 ≤ zk ∧ zk ≤ ld) → ld + 1 - zk ≤ (n : Int) → ∀ (H : Heap) (locs : List Loc), va_P (gD g) vwCl [(aR, .inr (11, [.ref aG, .ref aP, .ref aH, .ref aY, .ref aT, .ref aS, .ref aF, .ref aX, .int (iI pr), .int (iI tk), .int (iI tol), .int (iI hou)])), (aG, .inr (4, [.ref aGn, .ref aGw, .ref aGs, .int (iI kn)])), (aGn, .inl (gI g, 200, .inl (ar nd))), (aGw, .inl (gI g, 200, .inl (ar wk))), (aP, .inr (6, [.ref aPx, .ref aPy, .int (iI pn)])), (aPx, .inl (gI g, 200, .inl (ar bx))), (aPy, .inl (gI g, 200, .inl (ar byy))), (aY, .inr (10, [.ref aYh, .ref aYt, .ref aYc])), (aYh, .inl (gI g, 3, .inl (ar ht))), (aYt, .inl (gI g, 36, .inl (ar yt))), (aYc, .inl (gI g, 36, .inl (ar yc))), (aT, .inr (9, [.ref aTp, .ref aTt, .ref aTx, .ref aTy, .ref aE, .int (iI ld)])), (aTp, .inl (gI g, 200, .inl (ar tp))), (aTt, .inl (gI g, 200, .inl (ar tt))), (aTx, .inl (gI g, 200, .inl (ar kx))), (aTy, .inl (gI g, 200, .inl (ar ky))), (aF, .inr (3, [.int (iI zfx), .int (iI zfy), .int (iI zfhx), .int (iI zfhy)])), (aN, .inl (gI g, 1960, .inl (ar F)))] H → va_D A [(aR, .inr (11, [.ref aG, .ref aP, .ref aH, .ref aY, .ref aT, .ref aS, .ref aF, .ref aX, .int (iI pr), .int (iI tk), .int (iI tol), .int (iI hou)])), (aG, .inr (4, [.ref aGn, .ref aGw, .ref aGs, .int (iI kn)])), (aGn, .inl (gI g, 200, .inl (ar nd))), (aGw, .inl (gI g, 200, .inl (ar wk))), (aP, .inr (6, [.ref aPx, .ref aPy, .int (iI pn)])), (aPx, .inl (gI g, 200, .inl (ar bx))), (aPy, .inl (gI g, 200, .inl (ar byy))), (aY, .inr (10, [.ref aYh, .ref aYt, .ref aYc])), (aYh, .inl (gI g, 3, .inl (ar ht))), (aYt, .inl (gI g, 36, .inl (ar yt))), (aYc, .inl (gI g, 36, .inl (ar yc))), (aT, .inr (9, [.ref aTp, .ref aTt, .ref aTx, .ref aTy, .ref aE, .int (iI ld)])), (aTp, .inl (gI g, 200, .inl (ar tp))), (aTt, .inl (gI g, 200, .inl (ar tt))), (aTx, .inl (gI g, 200, .inl (ar kx))), (aTy, .inl (gI g, 200, .inl (ar ky))), (aF, .inr (3, [.int (iI zfx), .int (iI zfy), .int (iI zfhx), .int (iI zfhy)])), (aN, .inl (gI g, 1960, .inl (ar F)))] → va_S A s.heap H locs → ∀ (ls : Array Slot), lv_has ls 8 [(2, .int (iI zk)), (0, .ref aR), (1, .ref aN)] → W p l e { frames := 9, cells := 2000, slots := 14000, locals := 157 } s m args below meth c H locs (cz2) (sz2) Q9 (F0 m 2 ls []) := by
      intro n
      induction n with
      | zero => intro zk zfx zfy zfhx zfhy cz2 sz2 hcz2 hsz2 hzk hm; exfalso; omega
      | succ n ih2 =>
        intro zk zfx zfy zfhx zfhy cz2 sz2 hcz2 hsz2 hzk hm H locs hP hD hS ls hl
        refine lv_iload_n hx hb dL_areRings_2 rfl (lv_at hl 0 rfl) ?_
        refine lv_aload_n hx hb dL_areRings_3 rfl (lv_at hl 2 rfl) ?_
        refine x_iconst hx hb dL_areRings_4 ?_
        refine x_iald hx hb hK hP 17 0 rfl rfl (by omega) (by omega) (Nat.le_of_ble_eq_true rfl) dL_areRings_5 (fun v_1 hv_1 => ?_)
        refine x_top (show v_1 = ld by
            first
            | (
               omega)
            | fail "q9") ?_
        refine x_cmp_ge (tgt := 144) hx hb (by omega) (by omega) dL_areRings_6 (by decide) (fun c_2 => ?_) (fun c_2 => ?_)
        · skip
          refine x_iconst hx hb dL_areRings_144 ?_
          refine lv_istore_n (lv' := [(2, .int (iI 0)), (0, .ref aR), (1, .ref aN)]) hx hb dL_areRings_145 rfl hl (by decide) rfl (fun ls hl => ?_)
          refine x_iconst hx hb dL_areRings_146 ?_
          refine lv_istore_n (lv' := [(3, .int (iI 0)), (2, .int (iI 0)), (0, .ref aR), (1, .ref aN)]) hx hb dL_areRings_147 rfl hl (by decide) rfl (fun ls hl => ?_)
          refine x_iconst hx hb dL_areRings_148 ?_
          refine lv_istore (lv' := [(4, .int (iI 0)), (3, .int (iI 0)), (2, .int (iI 0)), (0, .ref aR), (1, .ref aN)]) hx hb dL_areRings_149 hl (by decide) rfl (fun ls hl => ?_)
          have lp151 : ∀ (n : Nat) (zs : Int) (zc : Int) (za : Int), ∀ (cz151 sz151 : Nat), cz151 + 29 * n ≤ 1740 → sz151 + 174 * n ≤ 10500 → (0 ≤ zs ∧ zs ≤ 3) → (zc = sumI (cuF ht yc hou) zs) → (za = sumI ht zs) → 4 - zs ≤ (n : Int) → ∀ (H : Heap) (locs : List Loc), va_P (gD g) vwCl [(aR, .inr (11, [.ref aG, .ref aP, .ref aH, .ref aY, .ref aT, .ref aS, .ref aF, .ref aX, .int (iI pr), .int (iI tk), .int (iI tol), .int (iI hou)])), (aG, .inr (4, [.ref aGn, .ref aGw, .ref aGs, .int (iI kn)])), (aGn, .inl (gI g, 200, .inl (ar nd))), (aGw, .inl (gI g, 200, .inl (ar wk))), (aP, .inr (6, [.ref aPx, .ref aPy, .int (iI pn)])), (aPx, .inl (gI g, 200, .inl (ar bx))), (aPy, .inl (gI g, 200, .inl (ar byy))), (aY, .inr (10, [.ref aYh, .ref aYt, .ref aYc])), (aYh, .inl (gI g, 3, .inl (ar ht))), (aYt, .inl (gI g, 36, .inl (ar yt))), (aYc, .inl (gI g, 36, .inl (ar yc))), (aT, .inr (9, [.ref aTp, .ref aTt, .ref aTx, .ref aTy, .ref aE, .int (iI ld)])), (aTp, .inl (gI g, 200, .inl (ar tp))), (aTt, .inl (gI g, 200, .inl (ar tt))), (aTx, .inl (gI g, 200, .inl (ar kx))), (aTy, .inl (gI g, 200, .inl (ar ky))), (aF, .inr (3, [.int (iI zfx), .int (iI zfy), .int (iI zfhx), .int (iI zfhy)])), (aN, .inl (gI g, 1960, .inl (ar F)))] H → va_D A [(aR, .inr (11, [.ref aG, .ref aP, .ref aH, .ref aY, .ref aT, .ref aS, .ref aF, .ref aX, .int (iI pr), .int (iI tk), .int (iI tol), .int (iI hou)])), (aG, .inr (4, [.ref aGn, .ref aGw, .ref aGs, .int (iI kn)])), (aGn, .inl (gI g, 200, .inl (ar nd))), (aGw, .inl (gI g, 200, .inl (ar wk))), (aP, .inr (6, [.ref aPx, .ref aPy, .int (iI pn)])), (aPx, .inl (gI g, 200, .inl (ar bx))), (aPy, .inl (gI g, 200, .inl (ar byy))), (aY, .inr (10, [.ref aYh, .ref aYt, .ref aYc])), (aYh, .inl (gI g, 3, .inl (ar ht))), (aYt, .inl (gI g, 36, .inl (ar yt))), (aYc, .inl (gI g, 36, .inl (ar yc))), (aT, .inr (9, [.ref aTp, .ref aTt, .ref aTx, .ref aTy, .ref aE, .int (iI ld)])), (aTp, .inl (gI g, 200, .inl (ar tp))), (aTt, .inl (gI g, 200, .inl (ar tt))), (aTx, .inl (gI g, 200, .inl (ar kx))), (aTy, .inl (gI g, 200, .inl (ar ky))), (aF, .inr (3, [.int (iI zfx), .int (iI zfy), .int (iI zfhx), .int (iI zfhy)])), (aN, .inl (gI g, 1960, .inl (ar F)))] → va_S A s.heap H locs → ∀ (ls : Array Slot), lv_has ls 8 [(4, .int (iI zs)), (3, .int (iI za)), (2, .int (iI zc)), (0, .ref aR), (1, .ref aN)] → W p l e { frames := 9, cells := 2000, slots := 14000, locals := 157 } s m args below meth c H locs (cz151) (sz151) Q9 (F0 m 151 ls []) := by
            intro n
            induction n with
            | zero => intro zs zc za cz151 sz151 hcz151 hsz151 hzs hzc hza hm; exfalso; omega
            | succ n ih151 =>
              intro zs zc za cz151 sz151 hcz151 hsz151 hzs hzc hza hm H locs hP hD hS ls hl
              refine lv_iload hx hb dL_areRings_151 (lv_at hl 0 rfl) ?_
              refine x_iconst hx hb dL_areRings_153 ?_
              refine x_cmp_ge (tgt := 329) hx hb (by omega) (by omega) dL_areRings_154 (by decide) (fun c_3 => ?_) (fun c_3 => ?_)
              · skip
                have e3 : zs = 3 := by omega
                rw [e3] at hzc hza
                have hcb : 0 ≤ sumI (cuF ht yc hou) 3 ∧ sumI (cuF ht yc hou) 3 ≤ 36 := cuF_b hb_ht
                have hab : 0 ≤ sumI ht 3 ∧ sumI ht 3 ≤ 36 := sumI_b (n := 3) (B := 12) hb_ht (by omega)
                have hT4 : sfT ld kn = (if ld < kn then 0 else 1) := rfl
                refine lv_aload_n hx hb dL_areRings_329 rfl (lv_at hl 4 rfl) ?_
                refine x_iconst hx hb dL_areRings_330 ?_
                refine x_iald hx hb hK hP 17 0 rfl rfl (by omega) (by omega) (Nat.le_of_ble_eq_true rfl) dL_areRings_331 (fun v_4 hv_4 => ?_)
                refine x_top (show v_4 = ld by
                    first
                    | (
                       omega)
                    | fail "q9") ?_
                refine lv_aload_n hx hb dL_areRings_332 rfl (lv_at hl 4 rfl) ?_
                refine x_iconst hx hb dL_areRings_333 ?_
                refine x_iald hx hb hK hP 17 0 rfl rfl (by omega) (by omega) (Nat.le_of_ble_eq_true rfl) dL_areRings_334 (fun v_5 hv_5 => ?_)
                refine x_top (show v_5 = kn by
                    first
                    | (
                       omega)
                    | fail "q9") ?_
                refine x_cmp_ne (tgt := 343) hx hb (by omega) (by omega) dL_areRings_335 (by decide) (fun c_6 => ?_) (fun c_6 => ?_)
                · skip
                  refine lv_aload_n hx hb dL_areRings_343 rfl (lv_at hl 4 rfl) ?_
                  refine x_calli (S := Unit) (wc := [(aN, .inl (gI g, 1960, .inl (ar F)))]) (wr := [(aR, .inr (11, [.ref aG, .ref aP, .ref aH, .ref aY, .ref aT, .ref aS, .ref aF, .ref aX, .int (iI pr), .int (iI tk), .int (iI tol), .int (iI hou)])), (aG, .inr (4, [.ref aGn, .ref aGw, .ref aGs, .int (iI kn)])), (aGn, .inl (gI g, 200, .inl (ar nd))), (aGw, .inl (gI g, 200, .inl (ar wk))), (aP, .inr (6, [.ref aPx, .ref aPy, .int (iI pn)])), (aPx, .inl (gI g, 200, .inl (ar bx))), (aPy, .inl (gI g, 200, .inl (ar byy))), (aY, .inr (10, [.ref aYh, .ref aYt, .ref aYc])), (aYh, .inl (gI g, 3, .inl (ar ht))), (aYt, .inl (gI g, 36, .inl (ar yt))), (aYc, .inl (gI g, 36, .inl (ar yc))), (aT, .inr (9, [.ref aTp, .ref aTt, .ref aTx, .ref aTy, .ref aE, .int (iI ld)])), (aTp, .inl (gI g, 200, .inl (ar tp))), (aTt, .inl (gI g, 200, .inl (ar tt))), (aTx, .inl (gI g, 200, .inl (ar kx))), (aTy, .inl (gI g, 200, .inl (ar ky))), (aF, .inr (3, [.int (iI zfx), .int (iI zfy), .int (iI zfhx), .int (iI zfhy)]))]) hC hP hD hS hA [17] [0, 1, 2, 3, 4, 5, 6, 7, 8, 9, 10, 11, 12, 13, 14, 15, 16] [0, 1, 2, 3, 4, 5, 6, 7, 8, 9, 10, 11, 12, 13, 14, 15, 16, 17] rfl rfl (fun hpre => va_runS (As := [.ref aN]) (rest := []) ⟨hx, hb, hml, hown, hts⟩ (c_L_takes l g H.size aN F kn ld pr nd wk (by first | (first | assumption | omega | exact bnd_up (by assumption) (by omega) (by omega)) | fail "q8") (by first | (first | assumption | omega | exact bnd_up (by assumption) (by omega) (by omega)) | fail "q8") (by first | (first | assumption | omega | exact bnd_up (by assumption) (by omega) (by omega)) | fail "q8") (by first | (first | assumption | omega | exact bnd_up (by assumption) (by omega) (by omega)) | fail "q8") (by first | (first | assumption | omega | exact bnd_up (by assumption) (by omega) (by omega)) | fail "q8") (by first | (first | assumption | omega | exact bnd_up (by assumption) (by omega) (by omega)) | fail "q8") (by first | (first | assumption | omega | exact bnd_up (by assumption) (by omega) (by omega)) | fail "q8") (by first | (exact n20 ld (by omega) (by omega)) | fail "q8") (by first | (exact n220 ld (by omega) (by omega)) | fail "q8")) (va_cwS 1 hts gL_areRings_L_takes rfl rfl rfl (by decide +kernel) ⟨Nat.le_of_ble_eq_true rfl, Nat.le_of_ble_eq_true rfl⟩) ⟨xB_blind, hpre _⟩ rfl rfl hl.1 rfl (lv_room (Nat.le_of_ble_eq_true rfl)) dL_areRings_344 ⟨(show cz151 ≤ 2000 by omega), (show sz151 ≤ 14000 by omega)⟩) (fun (u : Unit) => [(aR, .inr (11, [.ref aG, .ref aP, .ref aH, .ref aY, .ref aT, .ref aS, .ref aF, .ref aX, .int (iI pr), .int (iI tk), .int (iI tol), .int (iI hou)])), (aG, .inr (4, [.ref aGn, .ref aGw, .ref aGs, .int (iI kn)])), (aGn, .inl (gI g, 200, .inl (ar nd))), (aGw, .inl (gI g, 200, .inl (ar wk))), (aP, .inr (6, [.ref aPx, .ref aPy, .int (iI pn)])), (aPx, .inl (gI g, 200, .inl (ar bx))), (aPy, .inl (gI g, 200, .inl (ar byy))), (aY, .inr (10, [.ref aYh, .ref aYt, .ref aYc])), (aYh, .inl (gI g, 3, .inl (ar ht))), (aYt, .inl (gI g, 36, .inl (ar yt))), (aYc, .inl (gI g, 36, .inl (ar yc))), (aT, .inr (9, [.ref aTp, .ref aTt, .ref aTx, .ref aTy, .ref aE, .int (iI ld)])), (aTp, .inl (gI g, 200, .inl (ar tp))), (aTt, .inl (gI g, 200, .inl (ar tt))), (aTx, .inl (gI g, 200, .inl (ar kx))), (aTy, .inl (gI g, 200, .inl (ar ky))), (aF, .inr (3, [.int (iI zfx), .int (iI zfy), .int (iI zfhx), .int (iI zfhy)])), (aN, .inl (gI g, 1960, .inl (ar F)))]) rfl rfl (by decide) (fun _ => rfl) rfl (fun u v_7 H locs hv_7 pv_7 hP hD hS => ?_)
                  have hP : va_P (gD g) vwCl [(aR, .inr (11, [.ref aG, .ref aP, .ref aH, .ref aY, .ref aT, .ref aS, .ref aF, .ref aX, .int (iI pr), .int (iI tk), .int (iI tol), .int (iI hou)])), (aG, .inr (4, [.ref aGn, .ref aGw, .ref aGs, .int (iI kn)])), (aGn, .inl (gI g, 200, .inl (ar nd))), (aGw, .inl (gI g, 200, .inl (ar wk))), (aP, .inr (6, [.ref aPx, .ref aPy, .int (iI pn)])), (aPx, .inl (gI g, 200, .inl (ar bx))), (aPy, .inl (gI g, 200, .inl (ar byy))), (aY, .inr (10, [.ref aYh, .ref aYt, .ref aYc])), (aYh, .inl (gI g, 3, .inl (ar ht))), (aYt, .inl (gI g, 36, .inl (ar yt))), (aYc, .inl (gI g, 36, .inl (ar yc))), (aT, .inr (9, [.ref aTp, .ref aTt, .ref aTx, .ref aTy, .ref aE, .int (iI ld)])), (aTp, .inl (gI g, 200, .inl (ar tp))), (aTt, .inl (gI g, 200, .inl (ar tt))), (aTx, .inl (gI g, 200, .inl (ar kx))), (aTy, .inl (gI g, 200, .inl (ar ky))), (aF, .inr (3, [.int (iI zfx), .int (iI zfy), .int (iI zfhx), .int (iI zfhy)])), (aN, .inl (gI g, 1960, .inl (ar F)))] H := hP
                  have hD : va_D A [(aR, .inr (11, [.ref aG, .ref aP, .ref aH, .ref aY, .ref aT, .ref aS, .ref aF, .ref aX, .int (iI pr), .int (iI tk), .int (iI tol), .int (iI hou)])), (aG, .inr (4, [.ref aGn, .ref aGw, .ref aGs, .int (iI kn)])), (aGn, .inl (gI g, 200, .inl (ar nd))), (aGw, .inl (gI g, 200, .inl (ar wk))), (aP, .inr (6, [.ref aPx, .ref aPy, .int (iI pn)])), (aPx, .inl (gI g, 200, .inl (ar bx))), (aPy, .inl (gI g, 200, .inl (ar byy))), (aY, .inr (10, [.ref aYh, .ref aYt, .ref aYc])), (aYh, .inl (gI g, 3, .inl (ar ht))), (aYt, .inl (gI g, 36, .inl (ar yt))), (aYc, .inl (gI g, 36, .inl (ar yc))), (aT, .inr (9, [.ref aTp, .ref aTt, .ref aTx, .ref aTy, .ref aE, .int (iI ld)])), (aTp, .inl (gI g, 200, .inl (ar tp))), (aTt, .inl (gI g, 200, .inl (ar tt))), (aTx, .inl (gI g, 200, .inl (ar kx))), (aTy, .inl (gI g, 200, .inl (ar ky))), (aF, .inr (3, [.int (iI zfx), .int (iI zfy), .int (iI zfhx), .int (iI zfhy)])), (aN, .inl (gI g, 1960, .inl (ar F)))] := hD
                  have hv_7 : v_7 = takF nd wk pr ld := hv_7
                  have pv_7 : 10 ≤ v_7 ∧ v_7 ≤ 200 := by first | exact pv_7 | (rw [hv_7]; exact pv_7)
                  refine lv_istore (lv' := [(4, .int (iI v_7)), (3, .int (iI za)), (2, .int (iI zc)), (0, .ref aR), (1, .ref aN)]) hx hb dL_areRings_347 hl (by decide) rfl (fun ls hl => ?_)
                  refine lv_aload_n hx hb dL_areRings_349 rfl (lv_at hl 3 rfl) ?_
                  refine x_calli (S := Unit) (wc := [(aR, .inr (11, [.ref aG, .ref aP, .ref aH, .ref aY, .ref aT, .ref aS, .ref aF, .ref aX, .int (iI pr), .int (iI tk), .int (iI tol), .int (iI hou)])), (aT, .inr (9, [.ref aTp, .ref aTt, .ref aTx, .ref aTy, .ref aE, .int (iI ld)]))]) (wr := [(aG, .inr (4, [.ref aGn, .ref aGw, .ref aGs, .int (iI kn)])), (aGn, .inl (gI g, 200, .inl (ar nd))), (aGw, .inl (gI g, 200, .inl (ar wk))), (aP, .inr (6, [.ref aPx, .ref aPy, .int (iI pn)])), (aPx, .inl (gI g, 200, .inl (ar bx))), (aPy, .inl (gI g, 200, .inl (ar byy))), (aY, .inr (10, [.ref aYh, .ref aYt, .ref aYc])), (aYh, .inl (gI g, 3, .inl (ar ht))), (aYt, .inl (gI g, 36, .inl (ar yt))), (aYc, .inl (gI g, 36, .inl (ar yc))), (aTp, .inl (gI g, 200, .inl (ar tp))), (aTt, .inl (gI g, 200, .inl (ar tt))), (aTx, .inl (gI g, 200, .inl (ar kx))), (aTy, .inl (gI g, 200, .inl (ar ky))), (aF, .inr (3, [.int (iI zfx), .int (iI zfy), .int (iI zfhx), .int (iI zfhy)])), (aN, .inl (gI g, 1960, .inl (ar F)))]) hC hP hD hS hA [0, 11] [1, 2, 3, 4, 5, 6, 7, 8, 9, 10, 12, 13, 14, 15, 16, 17] [16, 0, 1, 2, 3, 4, 5, 6, 7, 8, 9, 17, 10, 11, 12, 13, 14, 15] rfl rfl (fun hpre => va_runV (As := []) (rest := []) ⟨hx, hb, hml, hown, hts⟩ (c_X8_ringCount l g H.size aR aG aP aH aY aT aS aF aX aTp aTt aTx aTy aE pr tk tol hou ld) (cwV 0 hts gL_areRings_X8_ringCount rfl rfl rfl (by decide +kernel) ⟨Nat.le_of_ble_eq_true rfl, Nat.le_of_ble_eq_true rfl⟩) ⟨xB_blind, va_recv hK hP (ci := 11) (q0 := 0) rfl rfl, hpre _⟩ rfl rfl hl.1 rfl (lv_room (Nat.le_of_ble_eq_true rfl)) dL_areRings_350 ⟨(show cz151 ≤ 2000 by omega), (show sz151 ≤ 14000 by omega)⟩) (fun (u : Unit) => [(aR, .inr (11, [.ref aG, .ref aP, .ref aH, .ref aY, .ref aT, .ref aS, .ref aF, .ref aX, .int (iI pr), .int (iI tk), .int (iI tol), .int (iI hou)])), (aG, .inr (4, [.ref aGn, .ref aGw, .ref aGs, .int (iI kn)])), (aGn, .inl (gI g, 200, .inl (ar nd))), (aGw, .inl (gI g, 200, .inl (ar wk))), (aP, .inr (6, [.ref aPx, .ref aPy, .int (iI pn)])), (aPx, .inl (gI g, 200, .inl (ar bx))), (aPy, .inl (gI g, 200, .inl (ar byy))), (aY, .inr (10, [.ref aYh, .ref aYt, .ref aYc])), (aYh, .inl (gI g, 3, .inl (ar ht))), (aYt, .inl (gI g, 36, .inl (ar yt))), (aYc, .inl (gI g, 36, .inl (ar yc))), (aT, .inr (9, [.ref aTp, .ref aTt, .ref aTx, .ref aTy, .ref aE, .int (iI ld)])), (aTp, .inl (gI g, 200, .inl (ar tp))), (aTt, .inl (gI g, 200, .inl (ar tt))), (aTx, .inl (gI g, 200, .inl (ar kx))), (aTy, .inl (gI g, 200, .inl (ar ky))), (aF, .inr (3, [.int (iI zfx), .int (iI zfy), .int (iI zfhx), .int (iI zfhy)])), (aN, .inl (gI g, 1960, .inl (ar F)))]) rfl rfl (by decide) (fun _ => rfl) rfl (fun u v_8 H locs hv_8 pv_8 hP hD hS => ?_)
                  have hP : va_P (gD g) vwCl [(aR, .inr (11, [.ref aG, .ref aP, .ref aH, .ref aY, .ref aT, .ref aS, .ref aF, .ref aX, .int (iI pr), .int (iI tk), .int (iI tol), .int (iI hou)])), (aG, .inr (4, [.ref aGn, .ref aGw, .ref aGs, .int (iI kn)])), (aGn, .inl (gI g, 200, .inl (ar nd))), (aGw, .inl (gI g, 200, .inl (ar wk))), (aP, .inr (6, [.ref aPx, .ref aPy, .int (iI pn)])), (aPx, .inl (gI g, 200, .inl (ar bx))), (aPy, .inl (gI g, 200, .inl (ar byy))), (aY, .inr (10, [.ref aYh, .ref aYt, .ref aYc])), (aYh, .inl (gI g, 3, .inl (ar ht))), (aYt, .inl (gI g, 36, .inl (ar yt))), (aYc, .inl (gI g, 36, .inl (ar yc))), (aT, .inr (9, [.ref aTp, .ref aTt, .ref aTx, .ref aTy, .ref aE, .int (iI ld)])), (aTp, .inl (gI g, 200, .inl (ar tp))), (aTt, .inl (gI g, 200, .inl (ar tt))), (aTx, .inl (gI g, 200, .inl (ar kx))), (aTy, .inl (gI g, 200, .inl (ar ky))), (aF, .inr (3, [.int (iI zfx), .int (iI zfy), .int (iI zfhx), .int (iI zfhy)])), (aN, .inl (gI g, 1960, .inl (ar F)))] H := hP
                  have hD : va_D A [(aR, .inr (11, [.ref aG, .ref aP, .ref aH, .ref aY, .ref aT, .ref aS, .ref aF, .ref aX, .int (iI pr), .int (iI tk), .int (iI tol), .int (iI hou)])), (aG, .inr (4, [.ref aGn, .ref aGw, .ref aGs, .int (iI kn)])), (aGn, .inl (gI g, 200, .inl (ar nd))), (aGw, .inl (gI g, 200, .inl (ar wk))), (aP, .inr (6, [.ref aPx, .ref aPy, .int (iI pn)])), (aPx, .inl (gI g, 200, .inl (ar bx))), (aPy, .inl (gI g, 200, .inl (ar byy))), (aY, .inr (10, [.ref aYh, .ref aYt, .ref aYc])), (aYh, .inl (gI g, 3, .inl (ar ht))), (aYt, .inl (gI g, 36, .inl (ar yt))), (aYc, .inl (gI g, 36, .inl (ar yc))), (aT, .inr (9, [.ref aTp, .ref aTt, .ref aTx, .ref aTy, .ref aE, .int (iI ld)])), (aTp, .inl (gI g, 200, .inl (ar tp))), (aTt, .inl (gI g, 200, .inl (ar tt))), (aTx, .inl (gI g, 200, .inl (ar kx))), (aTy, .inl (gI g, 200, .inl (ar ky))), (aF, .inr (3, [.int (iI zfx), .int (iI zfy), .int (iI zfhx), .int (iI zfhy)])), (aN, .inl (gI g, 1960, .inl (ar F)))] := hD
                  have hv_8 : v_8 = ld := hv_8
                  refine lv_aload_n hx hb dL_areRings_353 rfl (lv_at hl 4 rfl) ?_
                  refine x_iconst hx hb dL_areRings_354 ?_
                  refine x_iald hx hb hK hP 17 0 rfl rfl (by omega) (by omega) (Nat.le_of_ble_eq_true rfl) dL_areRings_355 (fun v_9 hv_9 => ?_)
                  refine x_top (show v_9 = ld by
                      first
                      | (
                         omega)
                      | fail "q9") ?_
                  refine x_cmp_ne (tgt := 415) hx hb (by omega) (by omega) dL_areRings_356 (by decide) (fun c_10 => ?_) (fun c_10 => ?_)
                  · skip
                    exfalso
                    first
                    | (
                       omega)
                    | fail "q9"
                  · skip
                    refine lv_aload_n hx hb dL_areRings_359 rfl (lv_at hl 3 rfl) ?_
                    refine x_calli (S := Unit) (wc := [(aR, .inr (11, [.ref aG, .ref aP, .ref aH, .ref aY, .ref aT, .ref aS, .ref aF, .ref aX, .int (iI pr), .int (iI tk), .int (iI tol), .int (iI hou)]))]) (wr := [(aG, .inr (4, [.ref aGn, .ref aGw, .ref aGs, .int (iI kn)])), (aGn, .inl (gI g, 200, .inl (ar nd))), (aGw, .inl (gI g, 200, .inl (ar wk))), (aP, .inr (6, [.ref aPx, .ref aPy, .int (iI pn)])), (aPx, .inl (gI g, 200, .inl (ar bx))), (aPy, .inl (gI g, 200, .inl (ar byy))), (aY, .inr (10, [.ref aYh, .ref aYt, .ref aYc])), (aYh, .inl (gI g, 3, .inl (ar ht))), (aYt, .inl (gI g, 36, .inl (ar yt))), (aYc, .inl (gI g, 36, .inl (ar yc))), (aT, .inr (9, [.ref aTp, .ref aTt, .ref aTx, .ref aTy, .ref aE, .int (iI ld)])), (aTp, .inl (gI g, 200, .inl (ar tp))), (aTt, .inl (gI g, 200, .inl (ar tt))), (aTx, .inl (gI g, 200, .inl (ar kx))), (aTy, .inl (gI g, 200, .inl (ar ky))), (aF, .inr (3, [.int (iI zfx), .int (iI zfy), .int (iI zfhx), .int (iI zfhy)])), (aN, .inl (gI g, 1960, .inl (ar F)))]) hC hP hD hS hA [0] [1, 2, 3, 4, 5, 6, 7, 8, 9, 10, 11, 12, 13, 14, 15, 16, 17] [17, 0, 1, 2, 3, 4, 5, 6, 7, 8, 9, 10, 11, 12, 13, 14, 15, 16] rfl rfl (fun hpre => va_runV (As := []) (rest := []) ⟨hx, hb, hml, hown, hts⟩ (c_X8_clock l g H.size aR aG aP aH aY aT aS aF aX pr tk tol hou) (cwV 0 hts gL_areRings_X8_clock rfl rfl rfl (by decide +kernel) ⟨Nat.le_of_ble_eq_true rfl, Nat.le_of_ble_eq_true rfl⟩) ⟨xB_blind, va_recv hK hP (ci := 11) (q0 := 0) rfl rfl, hpre _⟩ rfl rfl hl.1 rfl (lv_room (Nat.le_of_ble_eq_true rfl)) dL_areRings_360 ⟨(show cz151 ≤ 2000 by omega), (show sz151 ≤ 14000 by omega)⟩) (fun (u : Unit) => [(aR, .inr (11, [.ref aG, .ref aP, .ref aH, .ref aY, .ref aT, .ref aS, .ref aF, .ref aX, .int (iI pr), .int (iI tk), .int (iI tol), .int (iI hou)])), (aG, .inr (4, [.ref aGn, .ref aGw, .ref aGs, .int (iI kn)])), (aGn, .inl (gI g, 200, .inl (ar nd))), (aGw, .inl (gI g, 200, .inl (ar wk))), (aP, .inr (6, [.ref aPx, .ref aPy, .int (iI pn)])), (aPx, .inl (gI g, 200, .inl (ar bx))), (aPy, .inl (gI g, 200, .inl (ar byy))), (aY, .inr (10, [.ref aYh, .ref aYt, .ref aYc])), (aYh, .inl (gI g, 3, .inl (ar ht))), (aYt, .inl (gI g, 36, .inl (ar yt))), (aYc, .inl (gI g, 36, .inl (ar yc))), (aT, .inr (9, [.ref aTp, .ref aTt, .ref aTx, .ref aTy, .ref aE, .int (iI ld)])), (aTp, .inl (gI g, 200, .inl (ar tp))), (aTt, .inl (gI g, 200, .inl (ar tt))), (aTx, .inl (gI g, 200, .inl (ar kx))), (aTy, .inl (gI g, 200, .inl (ar ky))), (aF, .inr (3, [.int (iI zfx), .int (iI zfy), .int (iI zfhx), .int (iI zfhy)])), (aN, .inl (gI g, 1960, .inl (ar F)))]) rfl rfl (by decide) (fun _ => rfl) rfl (fun u v_11 H locs hv_11 pv_11 hP hD hS => ?_)
                    have hP : va_P (gD g) vwCl [(aR, .inr (11, [.ref aG, .ref aP, .ref aH, .ref aY, .ref aT, .ref aS, .ref aF, .ref aX, .int (iI pr), .int (iI tk), .int (iI tol), .int (iI hou)])), (aG, .inr (4, [.ref aGn, .ref aGw, .ref aGs, .int (iI kn)])), (aGn, .inl (gI g, 200, .inl (ar nd))), (aGw, .inl (gI g, 200, .inl (ar wk))), (aP, .inr (6, [.ref aPx, .ref aPy, .int (iI pn)])), (aPx, .inl (gI g, 200, .inl (ar bx))), (aPy, .inl (gI g, 200, .inl (ar byy))), (aY, .inr (10, [.ref aYh, .ref aYt, .ref aYc])), (aYh, .inl (gI g, 3, .inl (ar ht))), (aYt, .inl (gI g, 36, .inl (ar yt))), (aYc, .inl (gI g, 36, .inl (ar yc))), (aT, .inr (9, [.ref aTp, .ref aTt, .ref aTx, .ref aTy, .ref aE, .int (iI ld)])), (aTp, .inl (gI g, 200, .inl (ar tp))), (aTt, .inl (gI g, 200, .inl (ar tt))), (aTx, .inl (gI g, 200, .inl (ar kx))), (aTy, .inl (gI g, 200, .inl (ar ky))), (aF, .inr (3, [.int (iI zfx), .int (iI zfy), .int (iI zfhx), .int (iI zfhy)])), (aN, .inl (gI g, 1960, .inl (ar F)))] H := hP
                    have hD : va_D A [(aR, .inr (11, [.ref aG, .ref aP, .ref aH, .ref aY, .ref aT, .ref aS, .ref aF, .ref aX, .int (iI pr), .int (iI tk), .int (iI tol), .int (iI hou)])), (aG, .inr (4, [.ref aGn, .ref aGw, .ref aGs, .int (iI kn)])), (aGn, .inl (gI g, 200, .inl (ar nd))), (aGw, .inl (gI g, 200, .inl (ar wk))), (aP, .inr (6, [.ref aPx, .ref aPy, .int (iI pn)])), (aPx, .inl (gI g, 200, .inl (ar bx))), (aPy, .inl (gI g, 200, .inl (ar byy))), (aY, .inr (10, [.ref aYh, .ref aYt, .ref aYc])), (aYh, .inl (gI g, 3, .inl (ar ht))), (aYt, .inl (gI g, 36, .inl (ar yt))), (aYc, .inl (gI g, 36, .inl (ar yc))), (aT, .inr (9, [.ref aTp, .ref aTt, .ref aTx, .ref aTy, .ref aE, .int (iI ld)])), (aTp, .inl (gI g, 200, .inl (ar tp))), (aTt, .inl (gI g, 200, .inl (ar tt))), (aTx, .inl (gI g, 200, .inl (ar kx))), (aTy, .inl (gI g, 200, .inl (ar ky))), (aF, .inr (3, [.int (iI zfx), .int (iI zfy), .int (iI zfhx), .int (iI zfhy)])), (aN, .inl (gI g, 1960, .inl (ar F)))] := hD
                    have hv_11 : v_11 = hou := hv_11
                    refine lv_aload_n hx hb dL_areRings_363 rfl (lv_at hl 4 rfl) ?_
                    refine x_iconst hx hb dL_areRings_364 ?_
                    refine x_iald hx hb hK hP 17 0 rfl rfl (by omega) (by omega) (Nat.le_of_ble_eq_true rfl) dL_areRings_365 (fun v_12 hv_12 => ?_)
                    refine x_top (show v_12 = hou by
                        first
                        | (
                           omega)
                        | fail "q9") ?_
                    refine x_cmp_ne (tgt := 415) hx hb (by omega) (by omega) dL_areRings_366 (by decide) (fun c_13 => ?_) (fun c_13 => ?_)
                    · skip
                      exfalso
                      first
                      | (
                         omega)
                      | fail "q9"
                    · skip
                      refine lv_aload_n hx hb dL_areRings_369 rfl (lv_at hl 3 rfl) ?_
                      refine x_calli (S := Unit) (wc := [(aR, .inr (11, [.ref aG, .ref aP, .ref aH, .ref aY, .ref aT, .ref aS, .ref aF, .ref aX, .int (iI pr), .int (iI tk), .int (iI tol), .int (iI hou)]))]) (wr := [(aG, .inr (4, [.ref aGn, .ref aGw, .ref aGs, .int (iI kn)])), (aGn, .inl (gI g, 200, .inl (ar nd))), (aGw, .inl (gI g, 200, .inl (ar wk))), (aP, .inr (6, [.ref aPx, .ref aPy, .int (iI pn)])), (aPx, .inl (gI g, 200, .inl (ar bx))), (aPy, .inl (gI g, 200, .inl (ar byy))), (aY, .inr (10, [.ref aYh, .ref aYt, .ref aYc])), (aYh, .inl (gI g, 3, .inl (ar ht))), (aYt, .inl (gI g, 36, .inl (ar yt))), (aYc, .inl (gI g, 36, .inl (ar yc))), (aT, .inr (9, [.ref aTp, .ref aTt, .ref aTx, .ref aTy, .ref aE, .int (iI ld)])), (aTp, .inl (gI g, 200, .inl (ar tp))), (aTt, .inl (gI g, 200, .inl (ar tt))), (aTx, .inl (gI g, 200, .inl (ar kx))), (aTy, .inl (gI g, 200, .inl (ar ky))), (aF, .inr (3, [.int (iI zfx), .int (iI zfy), .int (iI zfhx), .int (iI zfhy)])), (aN, .inl (gI g, 1960, .inl (ar F)))]) hC hP hD hS hA [0] [1, 2, 3, 4, 5, 6, 7, 8, 9, 10, 11, 12, 13, 14, 15, 16, 17] [17, 0, 1, 2, 3, 4, 5, 6, 7, 8, 9, 10, 11, 12, 13, 14, 15, 16] rfl rfl (fun hpre => va_runV (As := []) (rest := []) ⟨hx, hb, hml, hown, hts⟩ (c_X8_slurry l g H.size aR aG aP aH aY aT aS aF aX pr tk tol hou) (cwV 0 hts gL_areRings_X8_slurry rfl rfl rfl (by decide +kernel) ⟨Nat.le_of_ble_eq_true rfl, Nat.le_of_ble_eq_true rfl⟩) ⟨xB_blind, va_recv hK hP (ci := 11) (q0 := 0) rfl rfl, hpre _⟩ rfl rfl hl.1 rfl (lv_room (Nat.le_of_ble_eq_true rfl)) dL_areRings_370 ⟨(show cz151 ≤ 2000 by omega), (show sz151 ≤ 14000 by omega)⟩) (fun (u : Unit) => [(aR, .inr (11, [.ref aG, .ref aP, .ref aH, .ref aY, .ref aT, .ref aS, .ref aF, .ref aX, .int (iI pr), .int (iI tk), .int (iI tol), .int (iI hou)])), (aG, .inr (4, [.ref aGn, .ref aGw, .ref aGs, .int (iI kn)])), (aGn, .inl (gI g, 200, .inl (ar nd))), (aGw, .inl (gI g, 200, .inl (ar wk))), (aP, .inr (6, [.ref aPx, .ref aPy, .int (iI pn)])), (aPx, .inl (gI g, 200, .inl (ar bx))), (aPy, .inl (gI g, 200, .inl (ar byy))), (aY, .inr (10, [.ref aYh, .ref aYt, .ref aYc])), (aYh, .inl (gI g, 3, .inl (ar ht))), (aYt, .inl (gI g, 36, .inl (ar yt))), (aYc, .inl (gI g, 36, .inl (ar yc))), (aT, .inr (9, [.ref aTp, .ref aTt, .ref aTx, .ref aTy, .ref aE, .int (iI ld)])), (aTp, .inl (gI g, 200, .inl (ar tp))), (aTt, .inl (gI g, 200, .inl (ar tt))), (aTx, .inl (gI g, 200, .inl (ar kx))), (aTy, .inl (gI g, 200, .inl (ar ky))), (aF, .inr (3, [.int (iI zfx), .int (iI zfy), .int (iI zfhx), .int (iI zfhy)])), (aN, .inl (gI g, 1960, .inl (ar F)))]) rfl rfl (by decide) (fun _ => rfl) rfl (fun u v_14 H locs hv_14 pv_14 hP hD hS => ?_)
                      have hP : va_P (gD g) vwCl [(aR, .inr (11, [.ref aG, .ref aP, .ref aH, .ref aY, .ref aT, .ref aS, .ref aF, .ref aX, .int (iI pr), .int (iI tk), .int (iI tol), .int (iI hou)])), (aG, .inr (4, [.ref aGn, .ref aGw, .ref aGs, .int (iI kn)])), (aGn, .inl (gI g, 200, .inl (ar nd))), (aGw, .inl (gI g, 200, .inl (ar wk))), (aP, .inr (6, [.ref aPx, .ref aPy, .int (iI pn)])), (aPx, .inl (gI g, 200, .inl (ar bx))), (aPy, .inl (gI g, 200, .inl (ar byy))), (aY, .inr (10, [.ref aYh, .ref aYt, .ref aYc])), (aYh, .inl (gI g, 3, .inl (ar ht))), (aYt, .inl (gI g, 36, .inl (ar yt))), (aYc, .inl (gI g, 36, .inl (ar yc))), (aT, .inr (9, [.ref aTp, .ref aTt, .ref aTx, .ref aTy, .ref aE, .int (iI ld)])), (aTp, .inl (gI g, 200, .inl (ar tp))), (aTt, .inl (gI g, 200, .inl (ar tt))), (aTx, .inl (gI g, 200, .inl (ar kx))), (aTy, .inl (gI g, 200, .inl (ar ky))), (aF, .inr (3, [.int (iI zfx), .int (iI zfy), .int (iI zfhx), .int (iI zfhy)])), (aN, .inl (gI g, 1960, .inl (ar F)))] H := hP
                      have hD : va_D A [(aR, .inr (11, [.ref aG, .ref aP, .ref aH, .ref aY, .ref aT, .ref aS, .ref aF, .ref aX, .int (iI pr), .int (iI tk), .int (iI tol), .int (iI hou)])), (aG, .inr (4, [.ref aGn, .ref aGw, .ref aGs, .int (iI kn)])), (aGn, .inl (gI g, 200, .inl (ar nd))), (aGw, .inl (gI g, 200, .inl (ar wk))), (aP, .inr (6, [.ref aPx, .ref aPy, .int (iI pn)])), (aPx, .inl (gI g, 200, .inl (ar bx))), (aPy, .inl (gI g, 200, .inl (ar byy))), (aY, .inr (10, [.ref aYh, .ref aYt, .ref aYc])), (aYh, .inl (gI g, 3, .inl (ar ht))), (aYt, .inl (gI g, 36, .inl (ar yt))), (aYc, .inl (gI g, 36, .inl (ar yc))), (aT, .inr (9, [.ref aTp, .ref aTt, .ref aTx, .ref aTy, .ref aE, .int (iI ld)])), (aTp, .inl (gI g, 200, .inl (ar tp))), (aTt, .inl (gI g, 200, .inl (ar tt))), (aTx, .inl (gI g, 200, .inl (ar kx))), (aTy, .inl (gI g, 200, .inl (ar ky))), (aF, .inr (3, [.int (iI zfx), .int (iI zfy), .int (iI zfhx), .int (iI zfhy)])), (aN, .inl (gI g, 1960, .inl (ar F)))] := hD
                      have hv_14 : v_14 = tk := hv_14
                      refine lv_aload_n hx hb dL_areRings_373 rfl (lv_at hl 4 rfl) ?_
                      refine x_bipush hx hb dL_areRings_374 (by decide) ?_
                      refine x_iald hx hb hK hP 17 0 rfl rfl (by omega) (by omega) (Nat.le_of_ble_eq_true rfl) dL_areRings_376 (fun v_15 hv_15 => ?_)
                      refine x_top (show v_15 = tk by
                          first
                          | (
                             omega)
                          | fail "q9") ?_
                      refine x_cmp_ne (tgt := 415) hx hb (by omega) (by omega) dL_areRings_377 (by decide) (fun c_16 => ?_) (fun c_16 => ?_)
                      · skip
                        exfalso
                        first
                        | (
                           omega)
                        | fail "q9"
                      · skip
                        refine lv_aload_n hx hb dL_areRings_380 rfl (lv_at hl 3 rfl) ?_
                        refine x_calli (S := Unit) (wc := [(aR, .inr (11, [.ref aG, .ref aP, .ref aH, .ref aY, .ref aT, .ref aS, .ref aF, .ref aX, .int (iI pr), .int (iI tk), .int (iI tol), .int (iI hou)])), (aG, .inr (4, [.ref aGn, .ref aGw, .ref aGs, .int (iI kn)])), (aGn, .inl (gI g, 200, .inl (ar nd))), (aGw, .inl (gI g, 200, .inl (ar wk))), (aT, .inr (9, [.ref aTp, .ref aTt, .ref aTx, .ref aTy, .ref aE, .int (iI ld)]))]) (wr := [(aP, .inr (6, [.ref aPx, .ref aPy, .int (iI pn)])), (aPx, .inl (gI g, 200, .inl (ar bx))), (aPy, .inl (gI g, 200, .inl (ar byy))), (aY, .inr (10, [.ref aYh, .ref aYt, .ref aYc])), (aYh, .inl (gI g, 3, .inl (ar ht))), (aYt, .inl (gI g, 36, .inl (ar yt))), (aYc, .inl (gI g, 36, .inl (ar yc))), (aTp, .inl (gI g, 200, .inl (ar tp))), (aTt, .inl (gI g, 200, .inl (ar tt))), (aTx, .inl (gI g, 200, .inl (ar kx))), (aTy, .inl (gI g, 200, .inl (ar ky))), (aF, .inr (3, [.int (iI zfx), .int (iI zfy), .int (iI zfhx), .int (iI zfhy)])), (aN, .inl (gI g, 1960, .inl (ar F)))]) hC hP hD hS hA [0, 1, 2, 3, 11] [4, 5, 6, 7, 8, 9, 10, 12, 13, 14, 15, 16, 17] [13, 14, 15, 16, 0, 1, 2, 3, 4, 5, 6, 17, 7, 8, 9, 10, 11, 12] rfl rfl (fun hpre => vx_runSW (As := [.ref aR]) (rest := []) ⟨hx, hb, hml, hown, hts⟩ (c_L_slurryFor l hflags g H.size aR aG aP aH aY aT aS aF aX aGn aGw aGs aTp aTt aTx aTy aE pr tk tol hou kn ld nd wk (by first | (first | assumption | omega | exact bnd_up (by assumption) (by omega) (by omega)) | fail "q8") (by first | (first | assumption | omega | exact bnd_up (by assumption) (by omega) (by omega)) | fail "q8") (by first | (first | assumption | omega | exact bnd_up (by assumption) (by omega) (by omega)) | fail "q8") (by first | (first | assumption | omega | exact bnd_up (by assumption) (by omega) (by omega)) | fail "q8") (by first | (first | assumption | omega | exact bnd_up (by assumption) (by omega) (by omega)) | fail "q8")) (vx_cwSW 1 hts gL_areRings_L_slurryFor rfl rfl rfl (by decide +kernel) ⟨Nat.le_of_ble_eq_true rfl, Nat.le_of_ble_eq_true rfl⟩) ⟨xB_blind, hpre _⟩ rfl rfl hl.1 rfl (lv_room (Nat.le_of_ble_eq_true rfl)) dL_areRings_381 ⟨(show cz151 + 1 ≤ 2000 by omega), (show sz151 + 6 ≤ 14000 by omega)⟩) (fun (u : Unit) => [(aR, .inr (11, [.ref aG, .ref aP, .ref aH, .ref aY, .ref aT, .ref aS, .ref aF, .ref aX, .int (iI pr), .int (iI tk), .int (iI tol), .int (iI hou)])), (aG, .inr (4, [.ref aGn, .ref aGw, .ref aGs, .int (iI kn)])), (aGn, .inl (gI g, 200, .inl (ar nd))), (aGw, .inl (gI g, 200, .inl (ar wk))), (aP, .inr (6, [.ref aPx, .ref aPy, .int (iI pn)])), (aPx, .inl (gI g, 200, .inl (ar bx))), (aPy, .inl (gI g, 200, .inl (ar byy))), (aY, .inr (10, [.ref aYh, .ref aYt, .ref aYc])), (aYh, .inl (gI g, 3, .inl (ar ht))), (aYt, .inl (gI g, 36, .inl (ar yt))), (aYc, .inl (gI g, 36, .inl (ar yc))), (aT, .inr (9, [.ref aTp, .ref aTt, .ref aTx, .ref aTy, .ref aE, .int (iI ld)])), (aTp, .inl (gI g, 200, .inl (ar tp))), (aTt, .inl (gI g, 200, .inl (ar tt))), (aTx, .inl (gI g, 200, .inl (ar kx))), (aTy, .inl (gI g, 200, .inl (ar ky))), (aF, .inr (3, [.int (iI zfx), .int (iI zfy), .int (iI zfhx), .int (iI zfhy)])), (aN, .inl (gI g, 1960, .inl (ar F)))]) rfl rfl (by decide) (fun _ => rfl) rfl (fun u v_17 H locs hv_17 pv_17 hP hD hS => ?_)
                        have hP : va_P (gD g) vwCl [(aR, .inr (11, [.ref aG, .ref aP, .ref aH, .ref aY, .ref aT, .ref aS, .ref aF, .ref aX, .int (iI pr), .int (iI tk), .int (iI tol), .int (iI hou)])), (aG, .inr (4, [.ref aGn, .ref aGw, .ref aGs, .int (iI kn)])), (aGn, .inl (gI g, 200, .inl (ar nd))), (aGw, .inl (gI g, 200, .inl (ar wk))), (aP, .inr (6, [.ref aPx, .ref aPy, .int (iI pn)])), (aPx, .inl (gI g, 200, .inl (ar bx))), (aPy, .inl (gI g, 200, .inl (ar byy))), (aY, .inr (10, [.ref aYh, .ref aYt, .ref aYc])), (aYh, .inl (gI g, 3, .inl (ar ht))), (aYt, .inl (gI g, 36, .inl (ar yt))), (aYc, .inl (gI g, 36, .inl (ar yc))), (aT, .inr (9, [.ref aTp, .ref aTt, .ref aTx, .ref aTy, .ref aE, .int (iI ld)])), (aTp, .inl (gI g, 200, .inl (ar tp))), (aTt, .inl (gI g, 200, .inl (ar tt))), (aTx, .inl (gI g, 200, .inl (ar kx))), (aTy, .inl (gI g, 200, .inl (ar ky))), (aF, .inr (3, [.int (iI zfx), .int (iI zfy), .int (iI zfhx), .int (iI zfhy)])), (aN, .inl (gI g, 1960, .inl (ar F)))] H := hP
                        have hD : va_D A [(aR, .inr (11, [.ref aG, .ref aP, .ref aH, .ref aY, .ref aT, .ref aS, .ref aF, .ref aX, .int (iI pr), .int (iI tk), .int (iI tol), .int (iI hou)])), (aG, .inr (4, [.ref aGn, .ref aGw, .ref aGs, .int (iI kn)])), (aGn, .inl (gI g, 200, .inl (ar nd))), (aGw, .inl (gI g, 200, .inl (ar wk))), (aP, .inr (6, [.ref aPx, .ref aPy, .int (iI pn)])), (aPx, .inl (gI g, 200, .inl (ar bx))), (aPy, .inl (gI g, 200, .inl (ar byy))), (aY, .inr (10, [.ref aYh, .ref aYt, .ref aYc])), (aYh, .inl (gI g, 3, .inl (ar ht))), (aYt, .inl (gI g, 36, .inl (ar yt))), (aYc, .inl (gI g, 36, .inl (ar yc))), (aT, .inr (9, [.ref aTp, .ref aTt, .ref aTx, .ref aTy, .ref aE, .int (iI ld)])), (aTp, .inl (gI g, 200, .inl (ar tp))), (aTt, .inl (gI g, 200, .inl (ar tt))), (aTx, .inl (gI g, 200, .inl (ar kx))), (aTy, .inl (gI g, 200, .inl (ar ky))), (aF, .inr (3, [.int (iI zfx), .int (iI zfy), .int (iI zfhx), .int (iI zfhy)])), (aN, .inl (gI g, 1960, .inl (ar F)))] := hD
                        have hv_17 : v_17 = (if sfT ld kn = 0 then takF nd wk pr ld else -900000 - sfT ld kn) := hv_17
                        refine lv_iload hx hb dL_areRings_384 (lv_at hl 0 rfl) ?_
                        refine x_cmp_ne (tgt := 415) hx hb (by omega) (by omega) dL_areRings_386 (by decide) (fun c_18 => ?_) (fun c_18 => ?_)
                        · skip
                          exfalso
                          first
                          | (
                             omega)
                          | fail "q9"
                        · skip
                          refine lv_aload_n hx hb dL_areRings_389 rfl (lv_at hl 3 rfl) ?_
                          refine x_callf (S := Unit) (wc := [(aR, .inr (11, [.ref aG, .ref aP, .ref aH, .ref aY, .ref aT, .ref aS, .ref aF, .ref aX, .int (iI pr), .int (iI tk), .int (iI tol), .int (iI hou)])), (aY, .inr (10, [.ref aYh, .ref aYt, .ref aYc])), (aYh, .inl (gI g, 3, .inl (ar ht))), (aYc, .inl (gI g, 36, .inl (ar yc)))]) (wr := [(aG, .inr (4, [.ref aGn, .ref aGw, .ref aGs, .int (iI kn)])), (aGn, .inl (gI g, 200, .inl (ar nd))), (aGw, .inl (gI g, 200, .inl (ar wk))), (aP, .inr (6, [.ref aPx, .ref aPy, .int (iI pn)])), (aPx, .inl (gI g, 200, .inl (ar bx))), (aPy, .inl (gI g, 200, .inl (ar byy))), (aYt, .inl (gI g, 36, .inl (ar yt))), (aT, .inr (9, [.ref aTp, .ref aTt, .ref aTx, .ref aTy, .ref aE, .int (iI ld)])), (aTp, .inl (gI g, 200, .inl (ar tp))), (aTt, .inl (gI g, 200, .inl (ar tt))), (aTx, .inl (gI g, 200, .inl (ar kx))), (aTy, .inl (gI g, 200, .inl (ar ky))), (aF, .inr (3, [.int (iI zfx), .int (iI zfy), .int (iI zfhx), .int (iI zfhy)])), (aN, .inl (gI g, 1960, .inl (ar F)))]) hC hP hD hS hA [0, 7, 8, 10] [1, 2, 3, 4, 5, 6, 9, 11, 12, 13, 14, 15, 16, 17] [14, 0, 1, 2, 3, 4, 5, 15, 16, 6, 17, 7, 8, 9, 10, 11, 12, 13] rfl rfl (fun hpre => vx_runSW (As := [.ref aR]) (rest := []) ⟨hx, hb, hml, hown, hts⟩ (c_L_curedShare l hflags g H.size aR aG aP aH aY aT aS aF aX aYh aYt aYc pr tk tol hou ht yc (by first | (first | assumption | omega | exact bnd_up (by assumption) (by omega) (by omega)) | fail "q8") (by first | (first | assumption | omega | exact bnd_up (by assumption) (by omega) (by omega)) | fail "q8") (by first | (first | assumption | omega | exact bnd_up (by assumption) (by omega) (by omega)) | fail "q8")) (vx_cwSW 1 hts gL_areRings_L_curedShare rfl rfl rfl (by decide +kernel) ⟨Nat.le_of_ble_eq_true rfl, Nat.le_of_ble_eq_true rfl⟩) ⟨xB_blind, hpre _⟩ rfl rfl hl.1 rfl (lv_room (Nat.le_of_ble_eq_true rfl)) dL_areRings_390 ⟨(show cz151 + 2 ≤ 2000 by omega), (show sz151 + 12 ≤ 14000 by omega)⟩) (fun (u : Unit) => [(aR, .inr (11, [.ref aG, .ref aP, .ref aH, .ref aY, .ref aT, .ref aS, .ref aF, .ref aX, .int (iI pr), .int (iI tk), .int (iI tol), .int (iI hou)])), (aG, .inr (4, [.ref aGn, .ref aGw, .ref aGs, .int (iI kn)])), (aGn, .inl (gI g, 200, .inl (ar nd))), (aGw, .inl (gI g, 200, .inl (ar wk))), (aP, .inr (6, [.ref aPx, .ref aPy, .int (iI pn)])), (aPx, .inl (gI g, 200, .inl (ar bx))), (aPy, .inl (gI g, 200, .inl (ar byy))), (aY, .inr (10, [.ref aYh, .ref aYt, .ref aYc])), (aYh, .inl (gI g, 3, .inl (ar ht))), (aYt, .inl (gI g, 36, .inl (ar yt))), (aYc, .inl (gI g, 36, .inl (ar yc))), (aT, .inr (9, [.ref aTp, .ref aTt, .ref aTx, .ref aTy, .ref aE, .int (iI ld)])), (aTp, .inl (gI g, 200, .inl (ar tp))), (aTt, .inl (gI g, 200, .inl (ar tt))), (aTx, .inl (gI g, 200, .inl (ar kx))), (aTy, .inl (gI g, 200, .inl (ar ky))), (aF, .inr (3, [.int (iI zfx), .int (iI zfy), .int (iI zfhx), .int (iI zfhy)])), (aN, .inl (gI g, 1960, .inl (ar F)))]) rfl rfl (by decide) (fun _ => rfl) rfl (fun u v_19 H locs hv_19 pv_19 hP hD hS => ?_)
                          have hP : va_P (gD g) vwCl [(aR, .inr (11, [.ref aG, .ref aP, .ref aH, .ref aY, .ref aT, .ref aS, .ref aF, .ref aX, .int (iI pr), .int (iI tk), .int (iI tol), .int (iI hou)])), (aG, .inr (4, [.ref aGn, .ref aGw, .ref aGs, .int (iI kn)])), (aGn, .inl (gI g, 200, .inl (ar nd))), (aGw, .inl (gI g, 200, .inl (ar wk))), (aP, .inr (6, [.ref aPx, .ref aPy, .int (iI pn)])), (aPx, .inl (gI g, 200, .inl (ar bx))), (aPy, .inl (gI g, 200, .inl (ar byy))), (aY, .inr (10, [.ref aYh, .ref aYt, .ref aYc])), (aYh, .inl (gI g, 3, .inl (ar ht))), (aYt, .inl (gI g, 36, .inl (ar yt))), (aYc, .inl (gI g, 36, .inl (ar yc))), (aT, .inr (9, [.ref aTp, .ref aTt, .ref aTx, .ref aTy, .ref aE, .int (iI ld)])), (aTp, .inl (gI g, 200, .inl (ar tp))), (aTt, .inl (gI g, 200, .inl (ar tt))), (aTx, .inl (gI g, 200, .inl (ar kx))), (aTy, .inl (gI g, 200, .inl (ar ky))), (aF, .inr (3, [.int (iI zfx), .int (iI zfy), .int (iI zfhx), .int (iI zfhy)])), (aN, .inl (gI g, 1960, .inl (ar F)))] H := hP
                          have hD : va_D A [(aR, .inr (11, [.ref aG, .ref aP, .ref aH, .ref aY, .ref aT, .ref aS, .ref aF, .ref aX, .int (iI pr), .int (iI tk), .int (iI tol), .int (iI hou)])), (aG, .inr (4, [.ref aGn, .ref aGw, .ref aGs, .int (iI kn)])), (aGn, .inl (gI g, 200, .inl (ar nd))), (aGw, .inl (gI g, 200, .inl (ar wk))), (aP, .inr (6, [.ref aPx, .ref aPy, .int (iI pn)])), (aPx, .inl (gI g, 200, .inl (ar bx))), (aPy, .inl (gI g, 200, .inl (ar byy))), (aY, .inr (10, [.ref aYh, .ref aYt, .ref aYc])), (aYh, .inl (gI g, 3, .inl (ar ht))), (aYt, .inl (gI g, 36, .inl (ar yt))), (aYc, .inl (gI g, 36, .inl (ar yc))), (aT, .inr (9, [.ref aTp, .ref aTt, .ref aTx, .ref aTy, .ref aE, .int (iI ld)])), (aTp, .inl (gI g, 200, .inl (ar tp))), (aTt, .inl (gI g, 200, .inl (ar tt))), (aTx, .inl (gI g, 200, .inl (ar kx))), (aTy, .inl (gI g, 200, .inl (ar ky))), (aF, .inr (3, [.int (iI zfx), .int (iI zfy), .int (iI zfhx), .int (iI zfhy)])), (aN, .inl (gI g, 1960, .inl (ar F)))] := hD
                          have hv_19 : v_19 = (if sumI ht 3 = 0 then 3378231824 else shF (sumI (cuF ht yc hou) 3) (sumI ht 3)) := hv_19
                          have hcs := hv_19
                          refine lv_iload_n hx hb dL_areRings_393 rfl (lv_at hl 1 rfl) ?_
                          refine x_if_ne (tgt := 402) hx hb (by omega) dL_areRings_394 (by decide) (fun c_20 => ?_) (fun c_20 => ?_)
                          · skip
                            refine lv_iload_n hx hb dL_areRings_402 rfl (lv_at hl 2 rfl) ?_
                            refine lv_i2f hx hb dL_areRings_403 ?_
                            refine lv_iload_n hx hb dL_areRings_404 rfl (lv_at hl 1 rfl) ?_
                            refine lv_i2f hx hb dL_areRings_405 ?_
                            refine lv_fdiv hx hb dL_areRings_406 (by
                                first
                                | (
                                   exact zf_div (by omega) (by omega))
                                | fail "q9") ?_
                            refine x_fcmpE hx hb (by
                                first
                                | (
                                   rw [hcs]
                                   first
                                   | (rw [if_pos (by omega)])
                                   | (rw [if_neg (by omega), ← hzc, ← hza]
                                      unfold shF
                                      rw [if_neg (by omega)]))
                                | fail "q9") (by
                                first
                                | (
                                   first
                                   | decide +kernel
                                   | (have q := shF_n (c := zc) (r := za) (by omega) (by omega)
                                      unfold shF at q
                                      rw [if_neg (by omega)] at q
                                      exact q))
                                | fail "q9") dL_areRings_407 ?_
                            refine x_if_ne (tgt := 415) hx hb (by omega) dL_areRings_408 (by decide) (fun c_21 => ?_) (fun c_21 => ?_)
                            · skip
                              exact absurd c_21 (by decide)
                            · skip
                              refine x_iconst hx hb dL_areRings_411 ?_
                              refine lv_goto (tgt := 416) hx hb dL_areRings_412 (by decide) ?_
                              rw [hQ9]
                              exact x_iret hx hb hr hlocks hP hD hS (S := Int × Int × Int × Int) (by decide) dL_areRings_416 ⟨zfx, zfy, zfhx, zfhy⟩ (by
                                  first
                                  | (
                                     exact (bI_t True.intro).symm)
                                  | fail "q9") trivial rfl (by omega) (by omega)
                          · skip
                            refine lv_ldcf (v := 3378231824) hx hb hown (hts (.constantFloat RL 56 (3378231824)) (List.mem_of_getElem? (i := 3) rfl)) dL_areRings_397 ?_
                            refine lv_goto (tgt := 407) hx hb dL_areRings_399 (by decide) ?_
                            refine x_fcmpE hx hb (by
                                first
                                | (
                                   rw [hcs]
                                   first
                                   | (rw [if_pos (by omega)])
                                   | (rw [if_neg (by omega), ← hzc, ← hza]
                                      unfold shF
                                      rw [if_neg (by omega)]))
                                | fail "q9") (by
                                first
                                | (
                                   first
                                   | decide +kernel
                                   | (have q := shF_n (c := zc) (r := za) (by omega) (by omega)
                                      unfold shF at q
                                      rw [if_neg (by omega)] at q
                                      exact q))
                                | fail "q9") dL_areRings_407 ?_
                            refine x_if_ne (tgt := 415) hx hb (by omega) dL_areRings_408 (by decide) (fun c_22 => ?_) (fun c_22 => ?_)
                            · skip
                              exact absurd c_22 (by decide)
                            · skip
                              refine x_iconst hx hb dL_areRings_411 ?_
                              refine lv_goto (tgt := 416) hx hb dL_areRings_412 (by decide) ?_
                              rw [hQ9]
                              exact x_iret hx hb hr hlocks hP hD hS (S := Int × Int × Int × Int) (by decide) dL_areRings_416 ⟨zfx, zfy, zfhx, zfhy⟩ (by
                                  first
                                  | (
                                     exact (bI_t True.intro).symm)
                                  | fail "q9") trivial rfl (by omega) (by omega)
                · skip
                  refine x_ldc (v := -900001) hx hb hown (hts (.constant RL 17 (-900001)) (List.mem_of_getElem? (i := 2) rfl)) (by decide) dL_areRings_338 ?_
                  refine lv_goto (tgt := 347) hx hb dL_areRings_340 (by decide) ?_
                  obtain ⟨v_23, ev_23⟩ : ∃ z : Int, z = -900001 := ⟨_, rfl⟩
                  refine x_top ev_23.symm ?_
                  refine lv_istore (lv' := [(4, .int (iI v_23)), (3, .int (iI za)), (2, .int (iI zc)), (0, .ref aR), (1, .ref aN)]) hx hb dL_areRings_347 hl (by decide) rfl (fun ls hl => ?_)
                  refine lv_aload_n hx hb dL_areRings_349 rfl (lv_at hl 3 rfl) ?_
                  refine x_calli (S := Unit) (wc := [(aR, .inr (11, [.ref aG, .ref aP, .ref aH, .ref aY, .ref aT, .ref aS, .ref aF, .ref aX, .int (iI pr), .int (iI tk), .int (iI tol), .int (iI hou)])), (aT, .inr (9, [.ref aTp, .ref aTt, .ref aTx, .ref aTy, .ref aE, .int (iI ld)]))]) (wr := [(aG, .inr (4, [.ref aGn, .ref aGw, .ref aGs, .int (iI kn)])), (aGn, .inl (gI g, 200, .inl (ar nd))), (aGw, .inl (gI g, 200, .inl (ar wk))), (aP, .inr (6, [.ref aPx, .ref aPy, .int (iI pn)])), (aPx, .inl (gI g, 200, .inl (ar bx))), (aPy, .inl (gI g, 200, .inl (ar byy))), (aY, .inr (10, [.ref aYh, .ref aYt, .ref aYc])), (aYh, .inl (gI g, 3, .inl (ar ht))), (aYt, .inl (gI g, 36, .inl (ar yt))), (aYc, .inl (gI g, 36, .inl (ar yc))), (aTp, .inl (gI g, 200, .inl (ar tp))), (aTt, .inl (gI g, 200, .inl (ar tt))), (aTx, .inl (gI g, 200, .inl (ar kx))), (aTy, .inl (gI g, 200, .inl (ar ky))), (aF, .inr (3, [.int (iI zfx), .int (iI zfy), .int (iI zfhx), .int (iI zfhy)])), (aN, .inl (gI g, 1960, .inl (ar F)))]) hC hP hD hS hA [0, 11] [1, 2, 3, 4, 5, 6, 7, 8, 9, 10, 12, 13, 14, 15, 16, 17] [16, 0, 1, 2, 3, 4, 5, 6, 7, 8, 9, 17, 10, 11, 12, 13, 14, 15] rfl rfl (fun hpre => va_runV (As := []) (rest := []) ⟨hx, hb, hml, hown, hts⟩ (c_X8_ringCount l g H.size aR aG aP aH aY aT aS aF aX aTp aTt aTx aTy aE pr tk tol hou ld) (cwV 0 hts gL_areRings_X8_ringCount rfl rfl rfl (by decide +kernel) ⟨Nat.le_of_ble_eq_true rfl, Nat.le_of_ble_eq_true rfl⟩) ⟨xB_blind, va_recv hK hP (ci := 11) (q0 := 0) rfl rfl, hpre _⟩ rfl rfl hl.1 rfl (lv_room (Nat.le_of_ble_eq_true rfl)) dL_areRings_350 ⟨(show cz151 ≤ 2000 by omega), (show sz151 ≤ 14000 by omega)⟩) (fun (u : Unit) => [(aR, .inr (11, [.ref aG, .ref aP, .ref aH, .ref aY, .ref aT, .ref aS, .ref aF, .ref aX, .int (iI pr), .int (iI tk), .int (iI tol), .int (iI hou)])), (aG, .inr (4, [.ref aGn, .ref aGw, .ref aGs, .int (iI kn)])), (aGn, .inl (gI g, 200, .inl (ar nd))), (aGw, .inl (gI g, 200, .inl (ar wk))), (aP, .inr (6, [.ref aPx, .ref aPy, .int (iI pn)])), (aPx, .inl (gI g, 200, .inl (ar bx))), (aPy, .inl (gI g, 200, .inl (ar byy))), (aY, .inr (10, [.ref aYh, .ref aYt, .ref aYc])), (aYh, .inl (gI g, 3, .inl (ar ht))), (aYt, .inl (gI g, 36, .inl (ar yt))), (aYc, .inl (gI g, 36, .inl (ar yc))), (aT, .inr (9, [.ref aTp, .ref aTt, .ref aTx, .ref aTy, .ref aE, .int (iI ld)])), (aTp, .inl (gI g, 200, .inl (ar tp))), (aTt, .inl (gI g, 200, .inl (ar tt))), (aTx, .inl (gI g, 200, .inl (ar kx))), (aTy, .inl (gI g, 200, .inl (ar ky))), (aF, .inr (3, [.int (iI zfx), .int (iI zfy), .int (iI zfhx), .int (iI zfhy)])), (aN, .inl (gI g, 1960, .inl (ar F)))]) rfl rfl (by decide) (fun _ => rfl) rfl (fun u v_24 H locs hv_24 pv_24 hP hD hS => ?_)
                  have hP : va_P (gD g) vwCl [(aR, .inr (11, [.ref aG, .ref aP, .ref aH, .ref aY, .ref aT, .ref aS, .ref aF, .ref aX, .int (iI pr), .int (iI tk), .int (iI tol), .int (iI hou)])), (aG, .inr (4, [.ref aGn, .ref aGw, .ref aGs, .int (iI kn)])), (aGn, .inl (gI g, 200, .inl (ar nd))), (aGw, .inl (gI g, 200, .inl (ar wk))), (aP, .inr (6, [.ref aPx, .ref aPy, .int (iI pn)])), (aPx, .inl (gI g, 200, .inl (ar bx))), (aPy, .inl (gI g, 200, .inl (ar byy))), (aY, .inr (10, [.ref aYh, .ref aYt, .ref aYc])), (aYh, .inl (gI g, 3, .inl (ar ht))), (aYt, .inl (gI g, 36, .inl (ar yt))), (aYc, .inl (gI g, 36, .inl (ar yc))), (aT, .inr (9, [.ref aTp, .ref aTt, .ref aTx, .ref aTy, .ref aE, .int (iI ld)])), (aTp, .inl (gI g, 200, .inl (ar tp))), (aTt, .inl (gI g, 200, .inl (ar tt))), (aTx, .inl (gI g, 200, .inl (ar kx))), (aTy, .inl (gI g, 200, .inl (ar ky))), (aF, .inr (3, [.int (iI zfx), .int (iI zfy), .int (iI zfhx), .int (iI zfhy)])), (aN, .inl (gI g, 1960, .inl (ar F)))] H := hP
                  have hD : va_D A [(aR, .inr (11, [.ref aG, .ref aP, .ref aH, .ref aY, .ref aT, .ref aS, .ref aF, .ref aX, .int (iI pr), .int (iI tk), .int (iI tol), .int (iI hou)])), (aG, .inr (4, [.ref aGn, .ref aGw, .ref aGs, .int (iI kn)])), (aGn, .inl (gI g, 200, .inl (ar nd))), (aGw, .inl (gI g, 200, .inl (ar wk))), (aP, .inr (6, [.ref aPx, .ref aPy, .int (iI pn)])), (aPx, .inl (gI g, 200, .inl (ar bx))), (aPy, .inl (gI g, 200, .inl (ar byy))), (aY, .inr (10, [.ref aYh, .ref aYt, .ref aYc])), (aYh, .inl (gI g, 3, .inl (ar ht))), (aYt, .inl (gI g, 36, .inl (ar yt))), (aYc, .inl (gI g, 36, .inl (ar yc))), (aT, .inr (9, [.ref aTp, .ref aTt, .ref aTx, .ref aTy, .ref aE, .int (iI ld)])), (aTp, .inl (gI g, 200, .inl (ar tp))), (aTt, .inl (gI g, 200, .inl (ar tt))), (aTx, .inl (gI g, 200, .inl (ar kx))), (aTy, .inl (gI g, 200, .inl (ar ky))), (aF, .inr (3, [.int (iI zfx), .int (iI zfy), .int (iI zfhx), .int (iI zfhy)])), (aN, .inl (gI g, 1960, .inl (ar F)))] := hD
                  have hv_24 : v_24 = ld := hv_24
                  refine lv_aload_n hx hb dL_areRings_353 rfl (lv_at hl 4 rfl) ?_
                  refine x_iconst hx hb dL_areRings_354 ?_
                  refine x_iald hx hb hK hP 17 0 rfl rfl (by omega) (by omega) (Nat.le_of_ble_eq_true rfl) dL_areRings_355 (fun v_25 hv_25 => ?_)
                  refine x_top (show v_25 = ld by
                      first
                      | (
                         omega)
                      | fail "q9") ?_
                  refine x_cmp_ne (tgt := 415) hx hb (by omega) (by omega) dL_areRings_356 (by decide) (fun c_26 => ?_) (fun c_26 => ?_)
                  · skip
                    exfalso
                    first
                    | (
                       omega)
                    | fail "q9"
                  · skip
                    refine lv_aload_n hx hb dL_areRings_359 rfl (lv_at hl 3 rfl) ?_
                    refine x_calli (S := Unit) (wc := [(aR, .inr (11, [.ref aG, .ref aP, .ref aH, .ref aY, .ref aT, .ref aS, .ref aF, .ref aX, .int (iI pr), .int (iI tk), .int (iI tol), .int (iI hou)]))]) (wr := [(aG, .inr (4, [.ref aGn, .ref aGw, .ref aGs, .int (iI kn)])), (aGn, .inl (gI g, 200, .inl (ar nd))), (aGw, .inl (gI g, 200, .inl (ar wk))), (aP, .inr (6, [.ref aPx, .ref aPy, .int (iI pn)])), (aPx, .inl (gI g, 200, .inl (ar bx))), (aPy, .inl (gI g, 200, .inl (ar byy))), (aY, .inr (10, [.ref aYh, .ref aYt, .ref aYc])), (aYh, .inl (gI g, 3, .inl (ar ht))), (aYt, .inl (gI g, 36, .inl (ar yt))), (aYc, .inl (gI g, 36, .inl (ar yc))), (aT, .inr (9, [.ref aTp, .ref aTt, .ref aTx, .ref aTy, .ref aE, .int (iI ld)])), (aTp, .inl (gI g, 200, .inl (ar tp))), (aTt, .inl (gI g, 200, .inl (ar tt))), (aTx, .inl (gI g, 200, .inl (ar kx))), (aTy, .inl (gI g, 200, .inl (ar ky))), (aF, .inr (3, [.int (iI zfx), .int (iI zfy), .int (iI zfhx), .int (iI zfhy)])), (aN, .inl (gI g, 1960, .inl (ar F)))]) hC hP hD hS hA [0] [1, 2, 3, 4, 5, 6, 7, 8, 9, 10, 11, 12, 13, 14, 15, 16, 17] [17, 0, 1, 2, 3, 4, 5, 6, 7, 8, 9, 10, 11, 12, 13, 14, 15, 16] rfl rfl (fun hpre => va_runV (As := []) (rest := []) ⟨hx, hb, hml, hown, hts⟩ (c_X8_clock l g H.size aR aG aP aH aY aT aS aF aX pr tk tol hou) (cwV 0 hts gL_areRings_X8_clock rfl rfl rfl (by decide +kernel) ⟨Nat.le_of_ble_eq_true rfl, Nat.le_of_ble_eq_true rfl⟩) ⟨xB_blind, va_recv hK hP (ci := 11) (q0 := 0) rfl rfl, hpre _⟩ rfl rfl hl.1 rfl (lv_room (Nat.le_of_ble_eq_true rfl)) dL_areRings_360 ⟨(show cz151 ≤ 2000 by omega), (show sz151 ≤ 14000 by omega)⟩) (fun (u : Unit) => [(aR, .inr (11, [.ref aG, .ref aP, .ref aH, .ref aY, .ref aT, .ref aS, .ref aF, .ref aX, .int (iI pr), .int (iI tk), .int (iI tol), .int (iI hou)])), (aG, .inr (4, [.ref aGn, .ref aGw, .ref aGs, .int (iI kn)])), (aGn, .inl (gI g, 200, .inl (ar nd))), (aGw, .inl (gI g, 200, .inl (ar wk))), (aP, .inr (6, [.ref aPx, .ref aPy, .int (iI pn)])), (aPx, .inl (gI g, 200, .inl (ar bx))), (aPy, .inl (gI g, 200, .inl (ar byy))), (aY, .inr (10, [.ref aYh, .ref aYt, .ref aYc])), (aYh, .inl (gI g, 3, .inl (ar ht))), (aYt, .inl (gI g, 36, .inl (ar yt))), (aYc, .inl (gI g, 36, .inl (ar yc))), (aT, .inr (9, [.ref aTp, .ref aTt, .ref aTx, .ref aTy, .ref aE, .int (iI ld)])), (aTp, .inl (gI g, 200, .inl (ar tp))), (aTt, .inl (gI g, 200, .inl (ar tt))), (aTx, .inl (gI g, 200, .inl (ar kx))), (aTy, .inl (gI g, 200, .inl (ar ky))), (aF, .inr (3, [.int (iI zfx), .int (iI zfy), .int (iI zfhx), .int (iI zfhy)])), (aN, .inl (gI g, 1960, .inl (ar F)))]) rfl rfl (by decide) (fun _ => rfl) rfl (fun u v_27 H locs hv_27 pv_27 hP hD hS => ?_)
                    have hP : va_P (gD g) vwCl [(aR, .inr (11, [.ref aG, .ref aP, .ref aH, .ref aY, .ref aT, .ref aS, .ref aF, .ref aX, .int (iI pr), .int (iI tk), .int (iI tol), .int (iI hou)])), (aG, .inr (4, [.ref aGn, .ref aGw, .ref aGs, .int (iI kn)])), (aGn, .inl (gI g, 200, .inl (ar nd))), (aGw, .inl (gI g, 200, .inl (ar wk))), (aP, .inr (6, [.ref aPx, .ref aPy, .int (iI pn)])), (aPx, .inl (gI g, 200, .inl (ar bx))), (aPy, .inl (gI g, 200, .inl (ar byy))), (aY, .inr (10, [.ref aYh, .ref aYt, .ref aYc])), (aYh, .inl (gI g, 3, .inl (ar ht))), (aYt, .inl (gI g, 36, .inl (ar yt))), (aYc, .inl (gI g, 36, .inl (ar yc))), (aT, .inr (9, [.ref aTp, .ref aTt, .ref aTx, .ref aTy, .ref aE, .int (iI ld)])), (aTp, .inl (gI g, 200, .inl (ar tp))), (aTt, .inl (gI g, 200, .inl (ar tt))), (aTx, .inl (gI g, 200, .inl (ar kx))), (aTy, .inl (gI g, 200, .inl (ar ky))), (aF, .inr (3, [.int (iI zfx), .int (iI zfy), .int (iI zfhx), .int (iI zfhy)])), (aN, .inl (gI g, 1960, .inl (ar F)))] H := hP
                    have hD : va_D A [(aR, .inr (11, [.ref aG, .ref aP, .ref aH, .ref aY, .ref aT, .ref aS, .ref aF, .ref aX, .int (iI pr), .int (iI tk), .int (iI tol), .int (iI hou)])), (aG, .inr (4, [.ref aGn, .ref aGw, .ref aGs, .int (iI kn)])), (aGn, .inl (gI g, 200, .inl (ar nd))), (aGw, .inl (gI g, 200, .inl (ar wk))), (aP, .inr (6, [.ref aPx, .ref aPy, .int (iI pn)])), (aPx, .inl (gI g, 200, .inl (ar bx))), (aPy, .inl (gI g, 200, .inl (ar byy))), (aY, .inr (10, [.ref aYh, .ref aYt, .ref aYc])), (aYh, .inl (gI g, 3, .inl (ar ht))), (aYt, .inl (gI g, 36, .inl (ar yt))), (aYc, .inl (gI g, 36, .inl (ar yc))), (aT, .inr (9, [.ref aTp, .ref aTt, .ref aTx, .ref aTy, .ref aE, .int (iI ld)])), (aTp, .inl (gI g, 200, .inl (ar tp))), (aTt, .inl (gI g, 200, .inl (ar tt))), (aTx, .inl (gI g, 200, .inl (ar kx))), (aTy, .inl (gI g, 200, .inl (ar ky))), (aF, .inr (3, [.int (iI zfx), .int (iI zfy), .int (iI zfhx), .int (iI zfhy)])), (aN, .inl (gI g, 1960, .inl (ar F)))] := hD
                    have hv_27 : v_27 = hou := hv_27
                    refine lv_aload_n hx hb dL_areRings_363 rfl (lv_at hl 4 rfl) ?_
                    refine x_iconst hx hb dL_areRings_364 ?_
                    refine x_iald hx hb hK hP 17 0 rfl rfl (by omega) (by omega) (Nat.le_of_ble_eq_true rfl) dL_areRings_365 (fun v_28 hv_28 => ?_)
                    refine x_top (show v_28 = hou by
                        first
                        | (
                           omega)
                        | fail "q9") ?_
                    refine x_cmp_ne (tgt := 415) hx hb (by omega) (by omega) dL_areRings_366 (by decide) (fun c_29 => ?_) (fun c_29 => ?_)
                    · skip
                      exfalso
                      first
                      | (
                         omega)
                      | fail "q9"
                    · skip
                      refine lv_aload_n hx hb dL_areRings_369 rfl (lv_at hl 3 rfl) ?_
                      refine x_calli (S := Unit) (wc := [(aR, .inr (11, [.ref aG, .ref aP, .ref aH, .ref aY, .ref aT, .ref aS, .ref aF, .ref aX, .int (iI pr), .int (iI tk), .int (iI tol), .int (iI hou)]))]) (wr := [(aG, .inr (4, [.ref aGn, .ref aGw, .ref aGs, .int (iI kn)])), (aGn, .inl (gI g, 200, .inl (ar nd))), (aGw, .inl (gI g, 200, .inl (ar wk))), (aP, .inr (6, [.ref aPx, .ref aPy, .int (iI pn)])), (aPx, .inl (gI g, 200, .inl (ar bx))), (aPy, .inl (gI g, 200, .inl (ar byy))), (aY, .inr (10, [.ref aYh, .ref aYt, .ref aYc])), (aYh, .inl (gI g, 3, .inl (ar ht))), (aYt, .inl (gI g, 36, .inl (ar yt))), (aYc, .inl (gI g, 36, .inl (ar yc))), (aT, .inr (9, [.ref aTp, .ref aTt, .ref aTx, .ref aTy, .ref aE, .int (iI ld)])), (aTp, .inl (gI g, 200, .inl (ar tp))), (aTt, .inl (gI g, 200, .inl (ar tt))), (aTx, .inl (gI g, 200, .inl (ar kx))), (aTy, .inl (gI g, 200, .inl (ar ky))), (aF, .inr (3, [.int (iI zfx), .int (iI zfy), .int (iI zfhx), .int (iI zfhy)])), (aN, .inl (gI g, 1960, .inl (ar F)))]) hC hP hD hS hA [0] [1, 2, 3, 4, 5, 6, 7, 8, 9, 10, 11, 12, 13, 14, 15, 16, 17] [17, 0, 1, 2, 3, 4, 5, 6, 7, 8, 9, 10, 11, 12, 13, 14, 15, 16] rfl rfl (fun hpre => va_runV (As := []) (rest := []) ⟨hx, hb, hml, hown, hts⟩ (c_X8_slurry l g H.size aR aG aP aH aY aT aS aF aX pr tk tol hou) (cwV 0 hts gL_areRings_X8_slurry rfl rfl rfl (by decide +kernel) ⟨Nat.le_of_ble_eq_true rfl, Nat.le_of_ble_eq_true rfl⟩) ⟨xB_blind, va_recv hK hP (ci := 11) (q0 := 0) rfl rfl, hpre _⟩ rfl rfl hl.1 rfl (lv_room (Nat.le_of_ble_eq_true rfl)) dL_areRings_370 ⟨(show cz151 ≤ 2000 by omega), (show sz151 ≤ 14000 by omega)⟩) (fun (u : Unit) => [(aR, .inr (11, [.ref aG, .ref aP, .ref aH, .ref aY, .ref aT, .ref aS, .ref aF, .ref aX, .int (iI pr), .int (iI tk), .int (iI tol), .int (iI hou)])), (aG, .inr (4, [.ref aGn, .ref aGw, .ref aGs, .int (iI kn)])), (aGn, .inl (gI g, 200, .inl (ar nd))), (aGw, .inl (gI g, 200, .inl (ar wk))), (aP, .inr (6, [.ref aPx, .ref aPy, .int (iI pn)])), (aPx, .inl (gI g, 200, .inl (ar bx))), (aPy, .inl (gI g, 200, .inl (ar byy))), (aY, .inr (10, [.ref aYh, .ref aYt, .ref aYc])), (aYh, .inl (gI g, 3, .inl (ar ht))), (aYt, .inl (gI g, 36, .inl (ar yt))), (aYc, .inl (gI g, 36, .inl (ar yc))), (aT, .inr (9, [.ref aTp, .ref aTt, .ref aTx, .ref aTy, .ref aE, .int (iI ld)])), (aTp, .inl (gI g, 200, .inl (ar tp))), (aTt, .inl (gI g, 200, .inl (ar tt))), (aTx, .inl (gI g, 200, .inl (ar kx))), (aTy, .inl (gI g, 200, .inl (ar ky))), (aF, .inr (3, [.int (iI zfx), .int (iI zfy), .int (iI zfhx), .int (iI zfhy)])), (aN, .inl (gI g, 1960, .inl (ar F)))]) rfl rfl (by decide) (fun _ => rfl) rfl (fun u v_30 H locs hv_30 pv_30 hP hD hS => ?_)
                      have hP : va_P (gD g) vwCl [(aR, .inr (11, [.ref aG, .ref aP, .ref aH, .ref aY, .ref aT, .ref aS, .ref aF, .ref aX, .int (iI pr), .int (iI tk), .int (iI tol), .int (iI hou)])), (aG, .inr (4, [.ref aGn, .ref aGw, .ref aGs, .int (iI kn)])), (aGn, .inl (gI g, 200, .inl (ar nd))), (aGw, .inl (gI g, 200, .inl (ar wk))), (aP, .inr (6, [.ref aPx, .ref aPy, .int (iI pn)])), (aPx, .inl (gI g, 200, .inl (ar bx))), (aPy, .inl (gI g, 200, .inl (ar byy))), (aY, .inr (10, [.ref aYh, .ref aYt, .ref aYc])), (aYh, .inl (gI g, 3, .inl (ar ht))), (aYt, .inl (gI g, 36, .inl (ar yt))), (aYc, .inl (gI g, 36, .inl (ar yc))), (aT, .inr (9, [.ref aTp, .ref aTt, .ref aTx, .ref aTy, .ref aE, .int (iI ld)])), (aTp, .inl (gI g, 200, .inl (ar tp))), (aTt, .inl (gI g, 200, .inl (ar tt))), (aTx, .inl (gI g, 200, .inl (ar kx))), (aTy, .inl (gI g, 200, .inl (ar ky))), (aF, .inr (3, [.int (iI zfx), .int (iI zfy), .int (iI zfhx), .int (iI zfhy)])), (aN, .inl (gI g, 1960, .inl (ar F)))] H := hP
                      have hD : va_D A [(aR, .inr (11, [.ref aG, .ref aP, .ref aH, .ref aY, .ref aT, .ref aS, .ref aF, .ref aX, .int (iI pr), .int (iI tk), .int (iI tol), .int (iI hou)])), (aG, .inr (4, [.ref aGn, .ref aGw, .ref aGs, .int (iI kn)])), (aGn, .inl (gI g, 200, .inl (ar nd))), (aGw, .inl (gI g, 200, .inl (ar wk))), (aP, .inr (6, [.ref aPx, .ref aPy, .int (iI pn)])), (aPx, .inl (gI g, 200, .inl (ar bx))), (aPy, .inl (gI g, 200, .inl (ar byy))), (aY, .inr (10, [.ref aYh, .ref aYt, .ref aYc])), (aYh, .inl (gI g, 3, .inl (ar ht))), (aYt, .inl (gI g, 36, .inl (ar yt))), (aYc, .inl (gI g, 36, .inl (ar yc))), (aT, .inr (9, [.ref aTp, .ref aTt, .ref aTx, .ref aTy, .ref aE, .int (iI ld)])), (aTp, .inl (gI g, 200, .inl (ar tp))), (aTt, .inl (gI g, 200, .inl (ar tt))), (aTx, .inl (gI g, 200, .inl (ar kx))), (aTy, .inl (gI g, 200, .inl (ar ky))), (aF, .inr (3, [.int (iI zfx), .int (iI zfy), .int (iI zfhx), .int (iI zfhy)])), (aN, .inl (gI g, 1960, .inl (ar F)))] := hD
                      have hv_30 : v_30 = tk := hv_30
                      refine lv_aload_n hx hb dL_areRings_373 rfl (lv_at hl 4 rfl) ?_
                      refine x_bipush hx hb dL_areRings_374 (by decide) ?_
                      refine x_iald hx hb hK hP 17 0 rfl rfl (by omega) (by omega) (Nat.le_of_ble_eq_true rfl) dL_areRings_376 (fun v_31 hv_31 => ?_)
                      refine x_top (show v_31 = tk by
                          first
                          | (
                             omega)
                          | fail "q9") ?_
                      refine x_cmp_ne (tgt := 415) hx hb (by omega) (by omega) dL_areRings_377 (by decide) (fun c_32 => ?_) (fun c_32 => ?_)
                      · skip
                        exfalso
                        first
                        | (
                           omega)
                        | fail "q9"
                      · skip
                        refine lv_aload_n hx hb dL_areRings_380 rfl (lv_at hl 3 rfl) ?_
                        refine x_calli (S := Unit) (wc := [(aR, .inr (11, [.ref aG, .ref aP, .ref aH, .ref aY, .ref aT, .ref aS, .ref aF, .ref aX, .int (iI pr), .int (iI tk), .int (iI tol), .int (iI hou)])), (aG, .inr (4, [.ref aGn, .ref aGw, .ref aGs, .int (iI kn)])), (aGn, .inl (gI g, 200, .inl (ar nd))), (aGw, .inl (gI g, 200, .inl (ar wk))), (aT, .inr (9, [.ref aTp, .ref aTt, .ref aTx, .ref aTy, .ref aE, .int (iI ld)]))]) (wr := [(aP, .inr (6, [.ref aPx, .ref aPy, .int (iI pn)])), (aPx, .inl (gI g, 200, .inl (ar bx))), (aPy, .inl (gI g, 200, .inl (ar byy))), (aY, .inr (10, [.ref aYh, .ref aYt, .ref aYc])), (aYh, .inl (gI g, 3, .inl (ar ht))), (aYt, .inl (gI g, 36, .inl (ar yt))), (aYc, .inl (gI g, 36, .inl (ar yc))), (aTp, .inl (gI g, 200, .inl (ar tp))), (aTt, .inl (gI g, 200, .inl (ar tt))), (aTx, .inl (gI g, 200, .inl (ar kx))), (aTy, .inl (gI g, 200, .inl (ar ky))), (aF, .inr (3, [.int (iI zfx), .int (iI zfy), .int (iI zfhx), .int (iI zfhy)])), (aN, .inl (gI g, 1960, .inl (ar F)))]) hC hP hD hS hA [0, 1, 2, 3, 11] [4, 5, 6, 7, 8, 9, 10, 12, 13, 14, 15, 16, 17] [13, 14, 15, 16, 0, 1, 2, 3, 4, 5, 6, 17, 7, 8, 9, 10, 11, 12] rfl rfl (fun hpre => vx_runSW (As := [.ref aR]) (rest := []) ⟨hx, hb, hml, hown, hts⟩ (c_L_slurryFor l hflags g H.size aR aG aP aH aY aT aS aF aX aGn aGw aGs aTp aTt aTx aTy aE pr tk tol hou kn ld nd wk (by first | (first | assumption | omega | exact bnd_up (by assumption) (by omega) (by omega)) | fail "q8") (by first | (first | assumption | omega | exact bnd_up (by assumption) (by omega) (by omega)) | fail "q8") (by first | (first | assumption | omega | exact bnd_up (by assumption) (by omega) (by omega)) | fail "q8") (by first | (first | assumption | omega | exact bnd_up (by assumption) (by omega) (by omega)) | fail "q8") (by first | (first | assumption | omega | exact bnd_up (by assumption) (by omega) (by omega)) | fail "q8")) (vx_cwSW 1 hts gL_areRings_L_slurryFor rfl rfl rfl (by decide +kernel) ⟨Nat.le_of_ble_eq_true rfl, Nat.le_of_ble_eq_true rfl⟩) ⟨xB_blind, hpre _⟩ rfl rfl hl.1 rfl (lv_room (Nat.le_of_ble_eq_true rfl)) dL_areRings_381 ⟨(show cz151 + 1 ≤ 2000 by omega), (show sz151 + 6 ≤ 14000 by omega)⟩) (fun (u : Unit) => [(aR, .inr (11, [.ref aG, .ref aP, .ref aH, .ref aY, .ref aT, .ref aS, .ref aF, .ref aX, .int (iI pr), .int (iI tk), .int (iI tol), .int (iI hou)])), (aG, .inr (4, [.ref aGn, .ref aGw, .ref aGs, .int (iI kn)])), (aGn, .inl (gI g, 200, .inl (ar nd))), (aGw, .inl (gI g, 200, .inl (ar wk))), (aP, .inr (6, [.ref aPx, .ref aPy, .int (iI pn)])), (aPx, .inl (gI g, 200, .inl (ar bx))), (aPy, .inl (gI g, 200, .inl (ar byy))), (aY, .inr (10, [.ref aYh, .ref aYt, .ref aYc])), (aYh, .inl (gI g, 3, .inl (ar ht))), (aYt, .inl (gI g, 36, .inl (ar yt))), (aYc, .inl (gI g, 36, .inl (ar yc))), (aT, .inr (9, [.ref aTp, .ref aTt, .ref aTx, .ref aTy, .ref aE, .int (iI ld)])), (aTp, .inl (gI g, 200, .inl (ar tp))), (aTt, .inl (gI g, 200, .inl (ar tt))), (aTx, .inl (gI g, 200, .inl (ar kx))), (aTy, .inl (gI g, 200, .inl (ar ky))), (aF, .inr (3, [.int (iI zfx), .int (iI zfy), .int (iI zfhx), .int (iI zfhy)])), (aN, .inl (gI g, 1960, .inl (ar F)))]) rfl rfl (by decide) (fun _ => rfl) rfl (fun u v_33 H locs hv_33 pv_33 hP hD hS => ?_)
                        have hP : va_P (gD g) vwCl [(aR, .inr (11, [.ref aG, .ref aP, .ref aH, .ref aY, .ref aT, .ref aS, .ref aF, .ref aX, .int (iI pr), .int (iI tk), .int (iI tol), .int (iI hou)])), (aG, .inr (4, [.ref aGn, .ref aGw, .ref aGs, .int (iI kn)])), (aGn, .inl (gI g, 200, .inl (ar nd))), (aGw, .inl (gI g, 200, .inl (ar wk))), (aP, .inr (6, [.ref aPx, .ref aPy, .int (iI pn)])), (aPx, .inl (gI g, 200, .inl (ar bx))), (aPy, .inl (gI g, 200, .inl (ar byy))), (aY, .inr (10, [.ref aYh, .ref aYt, .ref aYc])), (aYh, .inl (gI g, 3, .inl (ar ht))), (aYt, .inl (gI g, 36, .inl (ar yt))), (aYc, .inl (gI g, 36, .inl (ar yc))), (aT, .inr (9, [.ref aTp, .ref aTt, .ref aTx, .ref aTy, .ref aE, .int (iI ld)])), (aTp, .inl (gI g, 200, .inl (ar tp))), (aTt, .inl (gI g, 200, .inl (ar tt))), (aTx, .inl (gI g, 200, .inl (ar kx))), (aTy, .inl (gI g, 200, .inl (ar ky))), (aF, .inr (3, [.int (iI zfx), .int (iI zfy), .int (iI zfhx), .int (iI zfhy)])), (aN, .inl (gI g, 1960, .inl (ar F)))] H := hP
                        have hD : va_D A [(aR, .inr (11, [.ref aG, .ref aP, .ref aH, .ref aY, .ref aT, .ref aS, .ref aF, .ref aX, .int (iI pr), .int (iI tk), .int (iI tol), .int (iI hou)])), (aG, .inr (4, [.ref aGn, .ref aGw, .ref aGs, .int (iI kn)])), (aGn, .inl (gI g, 200, .inl (ar nd))), (aGw, .inl (gI g, 200, .inl (ar wk))), (aP, .inr (6, [.ref aPx, .ref aPy, .int (iI pn)])), (aPx, .inl (gI g, 200, .inl (ar bx))), (aPy, .inl (gI g, 200, .inl (ar byy))), (aY, .inr (10, [.ref aYh, .ref aYt, .ref aYc])), (aYh, .inl (gI g, 3, .inl (ar ht))), (aYt, .inl (gI g, 36, .inl (ar yt))), (aYc, .inl (gI g, 36, .inl (ar yc))), (aT, .inr (9, [.ref aTp, .ref aTt, .ref aTx, .ref aTy, .ref aE, .int (iI ld)])), (aTp, .inl (gI g, 200, .inl (ar tp))), (aTt, .inl (gI g, 200, .inl (ar tt))), (aTx, .inl (gI g, 200, .inl (ar kx))), (aTy, .inl (gI g, 200, .inl (ar ky))), (aF, .inr (3, [.int (iI zfx), .int (iI zfy), .int (iI zfhx), .int (iI zfhy)])), (aN, .inl (gI g, 1960, .inl (ar F)))] := hD
                        have hv_33 : v_33 = (if sfT ld kn = 0 then takF nd wk pr ld else -900000 - sfT ld kn) := hv_33
                        refine lv_iload hx hb dL_areRings_384 (lv_at hl 0 rfl) ?_
                        refine x_cmp_ne (tgt := 415) hx hb (by omega) (by omega) dL_areRings_386 (by decide) (fun c_34 => ?_) (fun c_34 => ?_)
                        · skip
                          exfalso
                          first
                          | (
                             omega)
                          | fail "q9"
                        · skip
                          refine lv_aload_n hx hb dL_areRings_389 rfl (lv_at hl 3 rfl) ?_
                          refine x_callf (S := Unit) (wc := [(aR, .inr (11, [.ref aG, .ref aP, .ref aH, .ref aY, .ref aT, .ref aS, .ref aF, .ref aX, .int (iI pr), .int (iI tk), .int (iI tol), .int (iI hou)])), (aY, .inr (10, [.ref aYh, .ref aYt, .ref aYc])), (aYh, .inl (gI g, 3, .inl (ar ht))), (aYc, .inl (gI g, 36, .inl (ar yc)))]) (wr := [(aG, .inr (4, [.ref aGn, .ref aGw, .ref aGs, .int (iI kn)])), (aGn, .inl (gI g, 200, .inl (ar nd))), (aGw, .inl (gI g, 200, .inl (ar wk))), (aP, .inr (6, [.ref aPx, .ref aPy, .int (iI pn)])), (aPx, .inl (gI g, 200, .inl (ar bx))), (aPy, .inl (gI g, 200, .inl (ar byy))), (aYt, .inl (gI g, 36, .inl (ar yt))), (aT, .inr (9, [.ref aTp, .ref aTt, .ref aTx, .ref aTy, .ref aE, .int (iI ld)])), (aTp, .inl (gI g, 200, .inl (ar tp))), (aTt, .inl (gI g, 200, .inl (ar tt))), (aTx, .inl (gI g, 200, .inl (ar kx))), (aTy, .inl (gI g, 200, .inl (ar ky))), (aF, .inr (3, [.int (iI zfx), .int (iI zfy), .int (iI zfhx), .int (iI zfhy)])), (aN, .inl (gI g, 1960, .inl (ar F)))]) hC hP hD hS hA [0, 7, 8, 10] [1, 2, 3, 4, 5, 6, 9, 11, 12, 13, 14, 15, 16, 17] [14, 0, 1, 2, 3, 4, 5, 15, 16, 6, 17, 7, 8, 9, 10, 11, 12, 13] rfl rfl (fun hpre => vx_runSW (As := [.ref aR]) (rest := []) ⟨hx, hb, hml, hown, hts⟩ (c_L_curedShare l hflags g H.size aR aG aP aH aY aT aS aF aX aYh aYt aYc pr tk tol hou ht yc (by first | (first | assumption | omega | exact bnd_up (by assumption) (by omega) (by omega)) | fail "q8") (by first | (first | assumption | omega | exact bnd_up (by assumption) (by omega) (by omega)) | fail "q8") (by first | (first | assumption | omega | exact bnd_up (by assumption) (by omega) (by omega)) | fail "q8")) (vx_cwSW 1 hts gL_areRings_L_curedShare rfl rfl rfl (by decide +kernel) ⟨Nat.le_of_ble_eq_true rfl, Nat.le_of_ble_eq_true rfl⟩) ⟨xB_blind, hpre _⟩ rfl rfl hl.1 rfl (lv_room (Nat.le_of_ble_eq_true rfl)) dL_areRings_390 ⟨(show cz151 + 2 ≤ 2000 by omega), (show sz151 + 12 ≤ 14000 by omega)⟩) (fun (u : Unit) => [(aR, .inr (11, [.ref aG, .ref aP, .ref aH, .ref aY, .ref aT, .ref aS, .ref aF, .ref aX, .int (iI pr), .int (iI tk), .int (iI tol), .int (iI hou)])), (aG, .inr (4, [.ref aGn, .ref aGw, .ref aGs, .int (iI kn)])), (aGn, .inl (gI g, 200, .inl (ar nd))), (aGw, .inl (gI g, 200, .inl (ar wk))), (aP, .inr (6, [.ref aPx, .ref aPy, .int (iI pn)])), (aPx, .inl (gI g, 200, .inl (ar bx))), (aPy, .inl (gI g, 200, .inl (ar byy))), (aY, .inr (10, [.ref aYh, .ref aYt, .ref aYc])), (aYh, .inl (gI g, 3, .inl (ar ht))), (aYt, .inl (gI g, 36, .inl (ar yt))), (aYc, .inl (gI g, 36, .inl (ar yc))), (aT, .inr (9, [.ref aTp, .ref aTt, .ref aTx, .ref aTy, .ref aE, .int (iI ld)])), (aTp, .inl (gI g, 200, .inl (ar tp))), (aTt, .inl (gI g, 200, .inl (ar tt))), (aTx, .inl (gI g, 200, .inl (ar kx))), (aTy, .inl (gI g, 200, .inl (ar ky))), (aF, .inr (3, [.int (iI zfx), .int (iI zfy), .int (iI zfhx), .int (iI zfhy)])), (aN, .inl (gI g, 1960, .inl (ar F)))]) rfl rfl (by decide) (fun _ => rfl) rfl (fun u v_35 H locs hv_35 pv_35 hP hD hS => ?_)
                          have hP : va_P (gD g) vwCl [(aR, .inr (11, [.ref aG, .ref aP, .ref aH, .ref aY, .ref aT, .ref aS, .ref aF, .ref aX, .int (iI pr), .int (iI tk), .int (iI tol), .int (iI hou)])), (aG, .inr (4, [.ref aGn, .ref aGw, .ref aGs, .int (iI kn)])), (aGn, .inl (gI g, 200, .inl (ar nd))), (aGw, .inl (gI g, 200, .inl (ar wk))), (aP, .inr (6, [.ref aPx, .ref aPy, .int (iI pn)])), (aPx, .inl (gI g, 200, .inl (ar bx))), (aPy, .inl (gI g, 200, .inl (ar byy))), (aY, .inr (10, [.ref aYh, .ref aYt, .ref aYc])), (aYh, .inl (gI g, 3, .inl (ar ht))), (aYt, .inl (gI g, 36, .inl (ar yt))), (aYc, .inl (gI g, 36, .inl (ar yc))), (aT, .inr (9, [.ref aTp, .ref aTt, .ref aTx, .ref aTy, .ref aE, .int (iI ld)])), (aTp, .inl (gI g, 200, .inl (ar tp))), (aTt, .inl (gI g, 200, .inl (ar tt))), (aTx, .inl (gI g, 200, .inl (ar kx))), (aTy, .inl (gI g, 200, .inl (ar ky))), (aF, .inr (3, [.int (iI zfx), .int (iI zfy), .int (iI zfhx), .int (iI zfhy)])), (aN, .inl (gI g, 1960, .inl (ar F)))] H := hP
                          have hD : va_D A [(aR, .inr (11, [.ref aG, .ref aP, .ref aH, .ref aY, .ref aT, .ref aS, .ref aF, .ref aX, .int (iI pr), .int (iI tk), .int (iI tol), .int (iI hou)])), (aG, .inr (4, [.ref aGn, .ref aGw, .ref aGs, .int (iI kn)])), (aGn, .inl (gI g, 200, .inl (ar nd))), (aGw, .inl (gI g, 200, .inl (ar wk))), (aP, .inr (6, [.ref aPx, .ref aPy, .int (iI pn)])), (aPx, .inl (gI g, 200, .inl (ar bx))), (aPy, .inl (gI g, 200, .inl (ar byy))), (aY, .inr (10, [.ref aYh, .ref aYt, .ref aYc])), (aYh, .inl (gI g, 3, .inl (ar ht))), (aYt, .inl (gI g, 36, .inl (ar yt))), (aYc, .inl (gI g, 36, .inl (ar yc))), (aT, .inr (9, [.ref aTp, .ref aTt, .ref aTx, .ref aTy, .ref aE, .int (iI ld)])), (aTp, .inl (gI g, 200, .inl (ar tp))), (aTt, .inl (gI g, 200, .inl (ar tt))), (aTx, .inl (gI g, 200, .inl (ar kx))), (aTy, .inl (gI g, 200, .inl (ar ky))), (aF, .inr (3, [.int (iI zfx), .int (iI zfy), .int (iI zfhx), .int (iI zfhy)])), (aN, .inl (gI g, 1960, .inl (ar F)))] := hD
                          have hv_35 : v_35 = (if sumI ht 3 = 0 then 3378231824 else shF (sumI (cuF ht yc hou) 3) (sumI ht 3)) := hv_35
                          have hcs := hv_35
                          refine lv_iload_n hx hb dL_areRings_393 rfl (lv_at hl 1 rfl) ?_
                          refine x_if_ne (tgt := 402) hx hb (by omega) dL_areRings_394 (by decide) (fun c_36 => ?_) (fun c_36 => ?_)
                          · skip
                            refine lv_iload_n hx hb dL_areRings_402 rfl (lv_at hl 2 rfl) ?_
                            refine lv_i2f hx hb dL_areRings_403 ?_
                            refine lv_iload_n hx hb dL_areRings_404 rfl (lv_at hl 1 rfl) ?_
                            refine lv_i2f hx hb dL_areRings_405 ?_
                            refine lv_fdiv hx hb dL_areRings_406 (by
                                first
                                | (
                                   exact zf_div (by omega) (by omega))
                                | fail "q9") ?_
                            refine x_fcmpE hx hb (by
                                first
                                | (
                                   rw [hcs]
                                   first
                                   | (rw [if_pos (by omega)])
                                   | (rw [if_neg (by omega), ← hzc, ← hza]
                                      unfold shF
                                      rw [if_neg (by omega)]))
                                | fail "q9") (by
                                first
                                | (
                                   first
                                   | decide +kernel
                                   | (have q := shF_n (c := zc) (r := za) (by omega) (by omega)
                                      unfold shF at q
                                      rw [if_neg (by omega)] at q
                                      exact q))
                                | fail "q9") dL_areRings_407 ?_
                            refine x_if_ne (tgt := 415) hx hb (by omega) dL_areRings_408 (by decide) (fun c_37 => ?_) (fun c_37 => ?_)
                            · skip
                              exact absurd c_37 (by decide)
                            · skip
                              refine x_iconst hx hb dL_areRings_411 ?_
                              refine lv_goto (tgt := 416) hx hb dL_areRings_412 (by decide) ?_
                              rw [hQ9]
                              exact x_iret hx hb hr hlocks hP hD hS (S := Int × Int × Int × Int) (by decide) dL_areRings_416 ⟨zfx, zfy, zfhx, zfhy⟩ (by
                                  first
                                  | (
                                     exact (bI_t True.intro).symm)
                                  | fail "q9") trivial rfl (by omega) (by omega)
                          · skip
                            refine lv_ldcf (v := 3378231824) hx hb hown (hts (.constantFloat RL 56 (3378231824)) (List.mem_of_getElem? (i := 3) rfl)) dL_areRings_397 ?_
                            refine lv_goto (tgt := 407) hx hb dL_areRings_399 (by decide) ?_
                            refine x_fcmpE hx hb (by
                                first
                                | (
                                   rw [hcs]
                                   first
                                   | (rw [if_pos (by omega)])
                                   | (rw [if_neg (by omega), ← hzc, ← hza]
                                      unfold shF
                                      rw [if_neg (by omega)]))
                                | fail "q9") (by
                                first
                                | (
                                   first
                                   | decide +kernel
                                   | (have q := shF_n (c := zc) (r := za) (by omega) (by omega)
                                      unfold shF at q
                                      rw [if_neg (by omega)] at q
                                      exact q))
                                | fail "q9") dL_areRings_407 ?_
                            refine x_if_ne (tgt := 415) hx hb (by omega) dL_areRings_408 (by decide) (fun c_38 => ?_) (fun c_38 => ?_)
                            · skip
                              exact absurd c_38 (by decide)
                            · skip
                              refine x_iconst hx hb dL_areRings_411 ?_
                              refine lv_goto (tgt := 416) hx hb dL_areRings_412 (by decide) ?_
                              rw [hQ9]
                              exact x_iret hx hb hr hlocks hP hD hS (S := Int × Int × Int × Int) (by decide) dL_areRings_416 ⟨zfx, zfy, zfhx, zfhy⟩ (by
                                  first
                                  | (
                                     exact (bI_t True.intro).symm)
                                  | fail "q9") trivial rfl (by omega) (by omega)
              · skip
                have hbz := hb_ht zs
                refine lv_aload_n hx hb dL_areRings_157 rfl (lv_at hl 4 rfl) ?_
                refine x_bipush hx hb dL_areRings_158 (by decide) ?_
                refine lv_iload hx hb dL_areRings_160 (lv_at hl 0 rfl) ?_
                refine x_iadd hx hb dL_areRings_162 ?_
                refine x_iald hx hb hK hP 17 0 rfl rfl (by omega) (by omega) (Nat.le_of_ble_eq_true rfl) dL_areRings_163 (fun v_39 hv_39 => ?_)
                refine x_top (show v_39 = ht zs by
                    first
                    | (
                       rw [hv_39]; exact n10 zs (by omega) (by omega))
                    | fail "q9") ?_
                obtain ⟨v_40, ev_40⟩ : ∃ z : Int, z = ht zs := ⟨_, rfl⟩
                refine x_top ev_40.symm ?_
                refine lv_istore (lv' := [(5, .int (iI v_40)), (4, .int (iI zs)), (3, .int (iI za)), (2, .int (iI zc)), (0, .ref aR), (1, .ref aN)]) hx hb dL_areRings_164 hl (by decide) rfl (fun ls hl => ?_)
                refine x_iconst hx hb dL_areRings_166 ?_
                refine lv_istore (lv' := [(6, .int (iI 0)), (5, .int (iI v_40)), (4, .int (iI zs)), (3, .int (iI za)), (2, .int (iI zc)), (0, .ref aR), (1, .ref aN)]) hx hb dL_areRings_167 hl (by decide) rfl (fun ls hl => ?_)
                have lp169 : ∀ (n : Nat) (zj : Int) (zi : Int), ∀ (cz169 sz169 : Nat), cz169 + 2 * n ≤ cz151 + 26 → sz169 + 12 * n ≤ sz151 + 156 → (0 ≤ zj ∧ zj ≤ ht zs) → (zi = zc + sumI (fun pl => bI (mx 0 (yc (zs * 12 + pl) + 24 - hou) = 0)) zj) → ht zs + 1 - zj ≤ (n : Int) → ∀ (H : Heap) (locs : List Loc), va_P (gD g) vwCl [(aR, .inr (11, [.ref aG, .ref aP, .ref aH, .ref aY, .ref aT, .ref aS, .ref aF, .ref aX, .int (iI pr), .int (iI tk), .int (iI tol), .int (iI hou)])), (aG, .inr (4, [.ref aGn, .ref aGw, .ref aGs, .int (iI kn)])), (aGn, .inl (gI g, 200, .inl (ar nd))), (aGw, .inl (gI g, 200, .inl (ar wk))), (aP, .inr (6, [.ref aPx, .ref aPy, .int (iI pn)])), (aPx, .inl (gI g, 200, .inl (ar bx))), (aPy, .inl (gI g, 200, .inl (ar byy))), (aY, .inr (10, [.ref aYh, .ref aYt, .ref aYc])), (aYh, .inl (gI g, 3, .inl (ar ht))), (aYt, .inl (gI g, 36, .inl (ar yt))), (aYc, .inl (gI g, 36, .inl (ar yc))), (aT, .inr (9, [.ref aTp, .ref aTt, .ref aTx, .ref aTy, .ref aE, .int (iI ld)])), (aTp, .inl (gI g, 200, .inl (ar tp))), (aTt, .inl (gI g, 200, .inl (ar tt))), (aTx, .inl (gI g, 200, .inl (ar kx))), (aTy, .inl (gI g, 200, .inl (ar ky))), (aF, .inr (3, [.int (iI zfx), .int (iI zfy), .int (iI zfhx), .int (iI zfhy)])), (aN, .inl (gI g, 1960, .inl (ar F)))] H → va_D A [(aR, .inr (11, [.ref aG, .ref aP, .ref aH, .ref aY, .ref aT, .ref aS, .ref aF, .ref aX, .int (iI pr), .int (iI tk), .int (iI tol), .int (iI hou)])), (aG, .inr (4, [.ref aGn, .ref aGw, .ref aGs, .int (iI kn)])), (aGn, .inl (gI g, 200, .inl (ar nd))), (aGw, .inl (gI g, 200, .inl (ar wk))), (aP, .inr (6, [.ref aPx, .ref aPy, .int (iI pn)])), (aPx, .inl (gI g, 200, .inl (ar bx))), (aPy, .inl (gI g, 200, .inl (ar byy))), (aY, .inr (10, [.ref aYh, .ref aYt, .ref aYc])), (aYh, .inl (gI g, 3, .inl (ar ht))), (aYt, .inl (gI g, 36, .inl (ar yt))), (aYc, .inl (gI g, 36, .inl (ar yc))), (aT, .inr (9, [.ref aTp, .ref aTt, .ref aTx, .ref aTy, .ref aE, .int (iI ld)])), (aTp, .inl (gI g, 200, .inl (ar tp))), (aTt, .inl (gI g, 200, .inl (ar tt))), (aTx, .inl (gI g, 200, .inl (ar kx))), (aTy, .inl (gI g, 200, .inl (ar ky))), (aF, .inr (3, [.int (iI zfx), .int (iI zfy), .int (iI zfhx), .int (iI zfhy)])), (aN, .inl (gI g, 1960, .inl (ar F)))] → va_S A s.heap H locs → ∀ (ls : Array Slot), lv_has ls 8 [(6, .int (iI zj)), (5, .int (iI v_40)), (4, .int (iI zs)), (3, .int (iI za)), (2, .int (iI zi)), (0, .ref aR), (1, .ref aN)] → W p l e { frames := 9, cells := 2000, slots := 14000, locals := 157 } s m args below meth c H locs (cz169) (sz169) Q9 (F0 m 169 ls []) := by
                  intro n
                  induction n with
                  | zero => intro zj zi cz169 sz169 hcz169 hsz169 hzj hzi hm; exfalso; omega
                  | succ n ih169 =>
                    intro zj zi cz169 sz169 hcz169 hsz169 hzj hzi hm H locs hP hD hS ls hl
                    refine lv_iload hx hb dL_areRings_169 (lv_at hl 0 rfl) ?_
                    refine lv_iload hx hb dL_areRings_171 (lv_at hl 1 rfl) ?_
                    refine x_cmp_ge (tgt := 238) hx hb (by omega) (by omega) dL_areRings_173 (by decide) (fun c_41 => ?_) (fun c_41 => ?_)
                    · skip
                      refine lv_iload_n hx hb dL_areRings_238 rfl (lv_at hl 3 rfl) ?_
                      refine lv_iload hx hb dL_areRings_239 (lv_at hl 1 rfl) ?_
                      refine x_iadd hx hb dL_areRings_241 ?_
                      obtain ⟨v_42, ev_42⟩ : ∃ z : Int, z = za + v_40 := ⟨_, rfl⟩
                      refine x_top ev_42.symm ?_
                      refine lv_istore_n (lv' := [(3, .int (iI v_42)), (6, .int (iI zj)), (5, .int (iI v_40)), (4, .int (iI zs)), (2, .int (iI zi)), (0, .ref aR), (1, .ref aN)]) hx hb dL_areRings_242 rfl hl (by decide) rfl (fun ls hl => ?_)
                      refine lv_iload hx hb dL_areRings_243 (lv_at hl 2 rfl) ?_
                      refine x_if_ne (tgt := 253) hx hb (by omega) dL_areRings_245 (by decide) (fun c_43 => ?_) (fun c_43 => ?_)
                      · skip
                        refine x_bipush hx hb dL_areRings_253 (by decide) ?_
                        refine lv_aload_n hx hb dL_areRings_255 rfl (lv_at hl 6 rfl) ?_
                        refine x_iconst hx hb dL_areRings_256 ?_
                        refine x_iald hx hb hK hP 17 0 rfl rfl (by omega) (by omega) (Nat.le_of_ble_eq_true rfl) dL_areRings_257 (fun v_44 hv_44 => ?_)
                        refine x_top (show v_44 = hou by
                            first
                            | (
                               omega)
                            | fail "q9") ?_
                        refine x_isub hx hb dL_areRings_258 ?_
                        refine lv_aload_n hx hb dL_areRings_259 rfl (lv_at hl 6 rfl) ?_
                        refine lv_aload_n hx hb dL_areRings_260 rfl (lv_at hl 6 rfl) ?_
                        refine lv_iload hx hb dL_areRings_261 (lv_at hl 3 rfl) ?_
                        refine x_calli (S := Unit) (wc := [(aN, .inl (gI g, 1960, .inl (ar F)))]) (wr := [(aR, .inr (11, [.ref aG, .ref aP, .ref aH, .ref aY, .ref aT, .ref aS, .ref aF, .ref aX, .int (iI pr), .int (iI tk), .int (iI tol), .int (iI hou)])), (aG, .inr (4, [.ref aGn, .ref aGw, .ref aGs, .int (iI kn)])), (aGn, .inl (gI g, 200, .inl (ar nd))), (aGw, .inl (gI g, 200, .inl (ar wk))), (aP, .inr (6, [.ref aPx, .ref aPy, .int (iI pn)])), (aPx, .inl (gI g, 200, .inl (ar bx))), (aPy, .inl (gI g, 200, .inl (ar byy))), (aY, .inr (10, [.ref aYh, .ref aYt, .ref aYc])), (aYh, .inl (gI g, 3, .inl (ar ht))), (aYt, .inl (gI g, 36, .inl (ar yt))), (aYc, .inl (gI g, 36, .inl (ar yc))), (aT, .inr (9, [.ref aTp, .ref aTt, .ref aTx, .ref aTy, .ref aE, .int (iI ld)])), (aTp, .inl (gI g, 200, .inl (ar tp))), (aTt, .inl (gI g, 200, .inl (ar tt))), (aTx, .inl (gI g, 200, .inl (ar kx))), (aTy, .inl (gI g, 200, .inl (ar ky))), (aF, .inr (3, [.int (iI zfx), .int (iI zfy), .int (iI zfhx), .int (iI zfhy)]))]) hC hP hD hS hA [17] [0, 1, 2, 3, 4, 5, 6, 7, 8, 9, 10, 11, 12, 13, 14, 15, 16] [0, 1, 2, 3, 4, 5, 6, 7, 8, 9, 10, 11, 12, 13, 14, 15, 16, 17] rfl rfl (fun hpre => va_runS (As := [.ref aN, .int (iI zs)]) (rest := [.ref aN, .int (iI (24 - hou))]) ⟨hx, hb, hml, hown, hts⟩ (c_L_topOf l g H.size aN zs F (by first | (first | assumption | omega | exact bnd_up (by assumption) (by omega) (by omega)) | fail "q8")) (va_cwS 2 hts gL_areRings_L_topOf rfl rfl rfl (by decide +kernel) ⟨Nat.le_of_ble_eq_true rfl, Nat.le_of_ble_eq_true rfl⟩) ⟨xB_blind, hpre _⟩ rfl rfl hl.1 rfl (lv_room (Nat.le_of_ble_eq_true rfl)) dL_areRings_263 ⟨(show cz169 ≤ 2000 by omega), (show sz169 ≤ 14000 by omega)⟩) (fun (u : Unit) => [(aR, .inr (11, [.ref aG, .ref aP, .ref aH, .ref aY, .ref aT, .ref aS, .ref aF, .ref aX, .int (iI pr), .int (iI tk), .int (iI tol), .int (iI hou)])), (aG, .inr (4, [.ref aGn, .ref aGw, .ref aGs, .int (iI kn)])), (aGn, .inl (gI g, 200, .inl (ar nd))), (aGw, .inl (gI g, 200, .inl (ar wk))), (aP, .inr (6, [.ref aPx, .ref aPy, .int (iI pn)])), (aPx, .inl (gI g, 200, .inl (ar bx))), (aPy, .inl (gI g, 200, .inl (ar byy))), (aY, .inr (10, [.ref aYh, .ref aYt, .ref aYc])), (aYh, .inl (gI g, 3, .inl (ar ht))), (aYt, .inl (gI g, 36, .inl (ar yt))), (aYc, .inl (gI g, 36, .inl (ar yc))), (aT, .inr (9, [.ref aTp, .ref aTt, .ref aTx, .ref aTy, .ref aE, .int (iI ld)])), (aTp, .inl (gI g, 200, .inl (ar tp))), (aTt, .inl (gI g, 200, .inl (ar tt))), (aTx, .inl (gI g, 200, .inl (ar kx))), (aTy, .inl (gI g, 200, .inl (ar ky))), (aF, .inr (3, [.int (iI zfx), .int (iI zfy), .int (iI zfhx), .int (iI zfhy)])), (aN, .inl (gI g, 1960, .inl (ar F)))]) rfl rfl (by decide) (fun _ => rfl) rfl (fun u v_45 H locs hv_45 pv_45 hP hD hS => ?_)
                        have hP : va_P (gD g) vwCl [(aR, .inr (11, [.ref aG, .ref aP, .ref aH, .ref aY, .ref aT, .ref aS, .ref aF, .ref aX, .int (iI pr), .int (iI tk), .int (iI tol), .int (iI hou)])), (aG, .inr (4, [.ref aGn, .ref aGw, .ref aGs, .int (iI kn)])), (aGn, .inl (gI g, 200, .inl (ar nd))), (aGw, .inl (gI g, 200, .inl (ar wk))), (aP, .inr (6, [.ref aPx, .ref aPy, .int (iI pn)])), (aPx, .inl (gI g, 200, .inl (ar bx))), (aPy, .inl (gI g, 200, .inl (ar byy))), (aY, .inr (10, [.ref aYh, .ref aYt, .ref aYc])), (aYh, .inl (gI g, 3, .inl (ar ht))), (aYt, .inl (gI g, 36, .inl (ar yt))), (aYc, .inl (gI g, 36, .inl (ar yc))), (aT, .inr (9, [.ref aTp, .ref aTt, .ref aTx, .ref aTy, .ref aE, .int (iI ld)])), (aTp, .inl (gI g, 200, .inl (ar tp))), (aTt, .inl (gI g, 200, .inl (ar tt))), (aTx, .inl (gI g, 200, .inl (ar kx))), (aTy, .inl (gI g, 200, .inl (ar ky))), (aF, .inr (3, [.int (iI zfx), .int (iI zfy), .int (iI zfhx), .int (iI zfhy)])), (aN, .inl (gI g, 1960, .inl (ar F)))] H := hP
                        have hD : va_D A [(aR, .inr (11, [.ref aG, .ref aP, .ref aH, .ref aY, .ref aT, .ref aS, .ref aF, .ref aX, .int (iI pr), .int (iI tk), .int (iI tol), .int (iI hou)])), (aG, .inr (4, [.ref aGn, .ref aGw, .ref aGs, .int (iI kn)])), (aGn, .inl (gI g, 200, .inl (ar nd))), (aGw, .inl (gI g, 200, .inl (ar wk))), (aP, .inr (6, [.ref aPx, .ref aPy, .int (iI pn)])), (aPx, .inl (gI g, 200, .inl (ar bx))), (aPy, .inl (gI g, 200, .inl (ar byy))), (aY, .inr (10, [.ref aYh, .ref aYt, .ref aYc])), (aYh, .inl (gI g, 3, .inl (ar ht))), (aYt, .inl (gI g, 36, .inl (ar yt))), (aYc, .inl (gI g, 36, .inl (ar yc))), (aT, .inr (9, [.ref aTp, .ref aTt, .ref aTx, .ref aTy, .ref aE, .int (iI ld)])), (aTp, .inl (gI g, 200, .inl (ar tp))), (aTt, .inl (gI g, 200, .inl (ar tt))), (aTx, .inl (gI g, 200, .inl (ar kx))), (aTy, .inl (gI g, 200, .inl (ar ky))), (aF, .inr (3, [.int (iI zfx), .int (iI zfy), .int (iI zfhx), .int (iI zfhy)])), (aN, .inl (gI g, 1960, .inl (ar F)))] := hD
                        have hv_45 : v_45 = 1818 + 24 * zs + 2 * F (10 + zs) := hv_45
                        have yv_45 : v_45 = 1818 + 24 * zs + 2 * ht zs := by
                            first
                            | (
                               rw [hv_45, n10 zs (by omega) (by omega)])
                            | fail "q9"
                        refine x_top yv_45 ?_
                        refine x_iconst hx hb dL_areRings_266 ?_
                        refine x_iadd hx hb dL_areRings_267 ?_
                        refine x_iald hx hb hK hP 17 0 rfl rfl (by omega) (by omega) (Nat.le_of_ble_eq_true rfl) dL_areRings_268 (fun v_46 hv_46 => ?_)
                        refine x_top (show v_46 = yc (zs * 12 + (ht zs - 1)) by
                            first
                            | (
                               rw [hv_46, ← (nst zs (ht zs - 1) (by omega) (by omega) (by omega) (by omega)).2]
                               congr 1
                               omega)
                            | fail "q9") ?_
                        refine x_iadd hx hb dL_areRings_269 ?_
                        have hT1 : stT zs = 0 := by unfold stT; omega
                        have hT2 : taT ht zs v_40 = 2 := by unfold taT; omega
                        have hT3 : emT ht zs = (if ht zs = 0 then 2 else 0) := by unfold emT; omega
                        have hcm2 := mx_r 0 (yc (zs * 12 + (ht zs - 1)) + 24 - hou) rfl
                        have hyc2 := hb_yc (zs * 12 + (ht zs - 1))
                        obtain ⟨v_47, ev_47⟩ : ∃ z : Int, z = (24 - hou) + (yc (zs * 12 + (ht zs - 1))) := ⟨_, rfl⟩
                        refine x_top ev_47.symm ?_
                        refine lv_istore (lv' := [(6, .int (iI v_47)), (3, .int (iI v_42)), (5, .int (iI v_40)), (4, .int (iI zs)), (2, .int (iI zi)), (0, .ref aR), (1, .ref aN)]) hx hb dL_areRings_270 hl (by decide) rfl (fun ls hl => ?_)
                        refine lv_aload_n hx hb dL_areRings_272 rfl (lv_at hl 5 rfl) ?_
                        refine lv_iload hx hb dL_areRings_273 (lv_at hl 3 rfl) ?_
                        refine x_calli (S := Unit) (wc := [(aR, .inr (11, [.ref aG, .ref aP, .ref aH, .ref aY, .ref aT, .ref aS, .ref aF, .ref aX, .int (iI pr), .int (iI tk), .int (iI tol), .int (iI hou)])), (aY, .inr (10, [.ref aYh, .ref aYt, .ref aYc])), (aYh, .inl (gI g, 3, .inl (ar ht)))]) (wr := [(aG, .inr (4, [.ref aGn, .ref aGw, .ref aGs, .int (iI kn)])), (aGn, .inl (gI g, 200, .inl (ar nd))), (aGw, .inl (gI g, 200, .inl (ar wk))), (aP, .inr (6, [.ref aPx, .ref aPy, .int (iI pn)])), (aPx, .inl (gI g, 200, .inl (ar bx))), (aPy, .inl (gI g, 200, .inl (ar byy))), (aYt, .inl (gI g, 36, .inl (ar yt))), (aYc, .inl (gI g, 36, .inl (ar yc))), (aT, .inr (9, [.ref aTp, .ref aTt, .ref aTx, .ref aTy, .ref aE, .int (iI ld)])), (aTp, .inl (gI g, 200, .inl (ar tp))), (aTt, .inl (gI g, 200, .inl (ar tt))), (aTx, .inl (gI g, 200, .inl (ar kx))), (aTy, .inl (gI g, 200, .inl (ar ky))), (aF, .inr (3, [.int (iI zfx), .int (iI zfy), .int (iI zfhx), .int (iI zfhy)])), (aN, .inl (gI g, 1960, .inl (ar F)))]) hC hP hD hS hA [0, 7, 8] [1, 2, 3, 4, 5, 6, 9, 10, 11, 12, 13, 14, 15, 16, 17] [15, 0, 1, 2, 3, 4, 5, 16, 17, 6, 7, 8, 9, 10, 11, 12, 13, 14] rfl rfl (fun hpre => vx_runSW (As := [.ref aR, .int (iI zs)]) (rest := []) ⟨hx, hb, hml, hown, hts⟩ (c_L_heightOf l hflags g H.size aR aG aP aH aY aT aS aF aX aYh aYt aYc pr tk tol hou zs ht (by first | (first | assumption | omega | exact bnd_up (by assumption) (by omega) (by omega)) | fail "q8") (by first | (first | assumption | omega | exact bnd_up (by assumption) (by omega) (by omega)) | fail "q8")) (vx_cwSW 2 hts gL_areRings_L_heightOf rfl rfl rfl (by decide +kernel) ⟨Nat.le_of_ble_eq_true rfl, Nat.le_of_ble_eq_true rfl⟩) ⟨xB_blind, hpre _⟩ rfl rfl hl.1 rfl (lv_room (Nat.le_of_ble_eq_true rfl)) dL_areRings_275 ⟨(show cz169 + 1 ≤ 2000 by omega), (show sz169 + 6 ≤ 14000 by omega)⟩) (fun (u : Unit) => [(aR, .inr (11, [.ref aG, .ref aP, .ref aH, .ref aY, .ref aT, .ref aS, .ref aF, .ref aX, .int (iI pr), .int (iI tk), .int (iI tol), .int (iI hou)])), (aG, .inr (4, [.ref aGn, .ref aGw, .ref aGs, .int (iI kn)])), (aGn, .inl (gI g, 200, .inl (ar nd))), (aGw, .inl (gI g, 200, .inl (ar wk))), (aP, .inr (6, [.ref aPx, .ref aPy, .int (iI pn)])), (aPx, .inl (gI g, 200, .inl (ar bx))), (aPy, .inl (gI g, 200, .inl (ar byy))), (aY, .inr (10, [.ref aYh, .ref aYt, .ref aYc])), (aYh, .inl (gI g, 3, .inl (ar ht))), (aYt, .inl (gI g, 36, .inl (ar yt))), (aYc, .inl (gI g, 36, .inl (ar yc))), (aT, .inr (9, [.ref aTp, .ref aTt, .ref aTx, .ref aTy, .ref aE, .int (iI ld)])), (aTp, .inl (gI g, 200, .inl (ar tp))), (aTt, .inl (gI g, 200, .inl (ar tt))), (aTx, .inl (gI g, 200, .inl (ar kx))), (aTy, .inl (gI g, 200, .inl (ar ky))), (aF, .inr (3, [.int (iI zfx), .int (iI zfy), .int (iI zfhx), .int (iI zfhy)])), (aN, .inl (gI g, 1960, .inl (ar F)))]) rfl rfl (by decide) (fun _ => rfl) rfl (fun u v_48 H locs hv_48 pv_48 hP hD hS => ?_)
                        have hP : va_P (gD g) vwCl [(aR, .inr (11, [.ref aG, .ref aP, .ref aH, .ref aY, .ref aT, .ref aS, .ref aF, .ref aX, .int (iI pr), .int (iI tk), .int (iI tol), .int (iI hou)])), (aG, .inr (4, [.ref aGn, .ref aGw, .ref aGs, .int (iI kn)])), (aGn, .inl (gI g, 200, .inl (ar nd))), (aGw, .inl (gI g, 200, .inl (ar wk))), (aP, .inr (6, [.ref aPx, .ref aPy, .int (iI pn)])), (aPx, .inl (gI g, 200, .inl (ar bx))), (aPy, .inl (gI g, 200, .inl (ar byy))), (aY, .inr (10, [.ref aYh, .ref aYt, .ref aYc])), (aYh, .inl (gI g, 3, .inl (ar ht))), (aYt, .inl (gI g, 36, .inl (ar yt))), (aYc, .inl (gI g, 36, .inl (ar yc))), (aT, .inr (9, [.ref aTp, .ref aTt, .ref aTx, .ref aTy, .ref aE, .int (iI ld)])), (aTp, .inl (gI g, 200, .inl (ar tp))), (aTt, .inl (gI g, 200, .inl (ar tt))), (aTx, .inl (gI g, 200, .inl (ar kx))), (aTy, .inl (gI g, 200, .inl (ar ky))), (aF, .inr (3, [.int (iI zfx), .int (iI zfy), .int (iI zfhx), .int (iI zfhy)])), (aN, .inl (gI g, 1960, .inl (ar F)))] H := hP
                        have hD : va_D A [(aR, .inr (11, [.ref aG, .ref aP, .ref aH, .ref aY, .ref aT, .ref aS, .ref aF, .ref aX, .int (iI pr), .int (iI tk), .int (iI tol), .int (iI hou)])), (aG, .inr (4, [.ref aGn, .ref aGw, .ref aGs, .int (iI kn)])), (aGn, .inl (gI g, 200, .inl (ar nd))), (aGw, .inl (gI g, 200, .inl (ar wk))), (aP, .inr (6, [.ref aPx, .ref aPy, .int (iI pn)])), (aPx, .inl (gI g, 200, .inl (ar bx))), (aPy, .inl (gI g, 200, .inl (ar byy))), (aY, .inr (10, [.ref aYh, .ref aYt, .ref aYc])), (aYh, .inl (gI g, 3, .inl (ar ht))), (aYt, .inl (gI g, 36, .inl (ar yt))), (aYc, .inl (gI g, 36, .inl (ar yc))), (aT, .inr (9, [.ref aTp, .ref aTt, .ref aTx, .ref aTy, .ref aE, .int (iI ld)])), (aTp, .inl (gI g, 200, .inl (ar tp))), (aTt, .inl (gI g, 200, .inl (ar tt))), (aTx, .inl (gI g, 200, .inl (ar kx))), (aTy, .inl (gI g, 200, .inl (ar ky))), (aF, .inr (3, [.int (iI zfx), .int (iI zfy), .int (iI zfhx), .int (iI zfhy)])), (aN, .inl (gI g, 1960, .inl (ar F)))] := hD
                        have hv_48 : v_48 = (if stT zs = 0 then ht zs else -900000 - stT zs) := hv_48
                        refine lv_iload hx hb dL_areRings_278 (lv_at hl 2 rfl) ?_
                        refine x_cmp_ne (tgt := 321) hx hb (by omega) (by omega) dL_areRings_280 (by decide) (fun c_49 => ?_) (fun c_49 => ?_)
                        · skip
                          exfalso
                          first
                          | (
                             omega)
                          | fail "q9"
                        · skip
                          refine lv_aload_n hx hb dL_areRings_283 rfl (lv_at hl 5 rfl) ?_
                          refine lv_iload hx hb dL_areRings_284 (lv_at hl 3 rfl) ?_
                          refine lv_iload hx hb dL_areRings_286 (lv_at hl 2 rfl) ?_
                          refine x_calli (S := Unit) (wc := [(aR, .inr (11, [.ref aG, .ref aP, .ref aH, .ref aY, .ref aT, .ref aS, .ref aF, .ref aX, .int (iI pr), .int (iI tk), .int (iI tol), .int (iI hou)])), (aY, .inr (10, [.ref aYh, .ref aYt, .ref aYc])), (aYh, .inl (gI g, 3, .inl (ar ht))), (aYt, .inl (gI g, 36, .inl (ar yt)))]) (wr := [(aG, .inr (4, [.ref aGn, .ref aGw, .ref aGs, .int (iI kn)])), (aGn, .inl (gI g, 200, .inl (ar nd))), (aGw, .inl (gI g, 200, .inl (ar wk))), (aP, .inr (6, [.ref aPx, .ref aPy, .int (iI pn)])), (aPx, .inl (gI g, 200, .inl (ar bx))), (aPy, .inl (gI g, 200, .inl (ar byy))), (aYc, .inl (gI g, 36, .inl (ar yc))), (aT, .inr (9, [.ref aTp, .ref aTt, .ref aTx, .ref aTy, .ref aE, .int (iI ld)])), (aTp, .inl (gI g, 200, .inl (ar tp))), (aTt, .inl (gI g, 200, .inl (ar tt))), (aTx, .inl (gI g, 200, .inl (ar kx))), (aTy, .inl (gI g, 200, .inl (ar ky))), (aF, .inr (3, [.int (iI zfx), .int (iI zfy), .int (iI zfhx), .int (iI zfhy)])), (aN, .inl (gI g, 1960, .inl (ar F)))]) hC hP hD hS hA [0, 7, 8, 9] [1, 2, 3, 4, 5, 6, 10, 11, 12, 13, 14, 15, 16, 17] [14, 0, 1, 2, 3, 4, 5, 15, 16, 17, 6, 7, 8, 9, 10, 11, 12, 13] rfl rfl (fun hpre => vx_runSW (As := [.ref aR, .int (iI zs), .int (iI v_40)]) (rest := []) ⟨hx, hb, hml, hown, hts⟩ (c_L_taperAt l hflags g H.size aR aG aP aH aY aT aS aF aX aYh aYt aYc pr tk tol hou zs v_40 ht yt (by first | (first | assumption | omega | exact bnd_up (by assumption) (by omega) (by omega)) | fail "q8") (by first | (first | assumption | omega | exact bnd_up (by assumption) (by omega) (by omega)) | fail "q8") (by first | (first | assumption | omega | exact bnd_up (by assumption) (by omega) (by omega)) | fail "q8")) (vx_cwSW 3 hts gL_areRings_L_taperAt rfl rfl rfl (by decide +kernel) ⟨Nat.le_of_ble_eq_true rfl, Nat.le_of_ble_eq_true rfl⟩) ⟨xB_blind, hpre _⟩ rfl rfl hl.1 rfl (lv_room (Nat.le_of_ble_eq_true rfl)) dL_areRings_288 ⟨(show cz169 + 3 ≤ 2000 by omega), (show sz169 + 18 ≤ 14000 by omega)⟩) (fun (u : Unit) => [(aR, .inr (11, [.ref aG, .ref aP, .ref aH, .ref aY, .ref aT, .ref aS, .ref aF, .ref aX, .int (iI pr), .int (iI tk), .int (iI tol), .int (iI hou)])), (aG, .inr (4, [.ref aGn, .ref aGw, .ref aGs, .int (iI kn)])), (aGn, .inl (gI g, 200, .inl (ar nd))), (aGw, .inl (gI g, 200, .inl (ar wk))), (aP, .inr (6, [.ref aPx, .ref aPy, .int (iI pn)])), (aPx, .inl (gI g, 200, .inl (ar bx))), (aPy, .inl (gI g, 200, .inl (ar byy))), (aY, .inr (10, [.ref aYh, .ref aYt, .ref aYc])), (aYh, .inl (gI g, 3, .inl (ar ht))), (aYt, .inl (gI g, 36, .inl (ar yt))), (aYc, .inl (gI g, 36, .inl (ar yc))), (aT, .inr (9, [.ref aTp, .ref aTt, .ref aTx, .ref aTy, .ref aE, .int (iI ld)])), (aTp, .inl (gI g, 200, .inl (ar tp))), (aTt, .inl (gI g, 200, .inl (ar tt))), (aTx, .inl (gI g, 200, .inl (ar kx))), (aTy, .inl (gI g, 200, .inl (ar ky))), (aF, .inr (3, [.int (iI zfx), .int (iI zfy), .int (iI zfhx), .int (iI zfhy)])), (aN, .inl (gI g, 1960, .inl (ar F)))]) rfl rfl (by decide) (fun _ => rfl) rfl (fun u v_50 H locs hv_50 pv_50 hP hD hS => ?_)
                          have hP : va_P (gD g) vwCl [(aR, .inr (11, [.ref aG, .ref aP, .ref aH, .ref aY, .ref aT, .ref aS, .ref aF, .ref aX, .int (iI pr), .int (iI tk), .int (iI tol), .int (iI hou)])), (aG, .inr (4, [.ref aGn, .ref aGw, .ref aGs, .int (iI kn)])), (aGn, .inl (gI g, 200, .inl (ar nd))), (aGw, .inl (gI g, 200, .inl (ar wk))), (aP, .inr (6, [.ref aPx, .ref aPy, .int (iI pn)])), (aPx, .inl (gI g, 200, .inl (ar bx))), (aPy, .inl (gI g, 200, .inl (ar byy))), (aY, .inr (10, [.ref aYh, .ref aYt, .ref aYc])), (aYh, .inl (gI g, 3, .inl (ar ht))), (aYt, .inl (gI g, 36, .inl (ar yt))), (aYc, .inl (gI g, 36, .inl (ar yc))), (aT, .inr (9, [.ref aTp, .ref aTt, .ref aTx, .ref aTy, .ref aE, .int (iI ld)])), (aTp, .inl (gI g, 200, .inl (ar tp))), (aTt, .inl (gI g, 200, .inl (ar tt))), (aTx, .inl (gI g, 200, .inl (ar kx))), (aTy, .inl (gI g, 200, .inl (ar ky))), (aF, .inr (3, [.int (iI zfx), .int (iI zfy), .int (iI zfhx), .int (iI zfhy)])), (aN, .inl (gI g, 1960, .inl (ar F)))] H := hP
                          have hD : va_D A [(aR, .inr (11, [.ref aG, .ref aP, .ref aH, .ref aY, .ref aT, .ref aS, .ref aF, .ref aX, .int (iI pr), .int (iI tk), .int (iI tol), .int (iI hou)])), (aG, .inr (4, [.ref aGn, .ref aGw, .ref aGs, .int (iI kn)])), (aGn, .inl (gI g, 200, .inl (ar nd))), (aGw, .inl (gI g, 200, .inl (ar wk))), (aP, .inr (6, [.ref aPx, .ref aPy, .int (iI pn)])), (aPx, .inl (gI g, 200, .inl (ar bx))), (aPy, .inl (gI g, 200, .inl (ar byy))), (aY, .inr (10, [.ref aYh, .ref aYt, .ref aYc])), (aYh, .inl (gI g, 3, .inl (ar ht))), (aYt, .inl (gI g, 36, .inl (ar yt))), (aYc, .inl (gI g, 36, .inl (ar yc))), (aT, .inr (9, [.ref aTp, .ref aTt, .ref aTx, .ref aTy, .ref aE, .int (iI ld)])), (aTp, .inl (gI g, 200, .inl (ar tp))), (aTt, .inl (gI g, 200, .inl (ar tt))), (aTx, .inl (gI g, 200, .inl (ar kx))), (aTy, .inl (gI g, 200, .inl (ar ky))), (aF, .inr (3, [.int (iI zfx), .int (iI zfy), .int (iI zfhx), .int (iI zfhy)])), (aN, .inl (gI g, 1960, .inl (ar F)))] := hD
                          have hv_50 : v_50 = (if taT ht zs v_40 = 0 then yt (zs * 12 + v_40) else -900000 - taT ht zs v_40) := hv_50
                          refine x_ldc (v := -900002) hx hb hown (hts (.constant RL 20 (-900002)) (List.mem_of_getElem? (i := 1) rfl)) (by decide) dL_areRings_291 ?_
                          refine x_cmp_ne (tgt := 321) hx hb (by omega) (by omega) dL_areRings_293 (by decide) (fun c_51 => ?_) (fun c_51 => ?_)
                          · skip
                            exfalso
                            first
                            | (
                               omega)
                            | fail "q9"
                          · skip
                            refine lv_aload_n hx hb dL_areRings_296 rfl (lv_at hl 5 rfl) ?_
                            refine lv_iload hx hb dL_areRings_297 (lv_at hl 3 rfl) ?_
                            refine x_calli (S := Unit) (wc := [(aR, .inr (11, [.ref aG, .ref aP, .ref aH, .ref aY, .ref aT, .ref aS, .ref aF, .ref aX, .int (iI pr), .int (iI tk), .int (iI tol), .int (iI hou)])), (aY, .inr (10, [.ref aYh, .ref aYt, .ref aYc])), (aYh, .inl (gI g, 3, .inl (ar ht))), (aYc, .inl (gI g, 36, .inl (ar yc)))]) (wr := [(aG, .inr (4, [.ref aGn, .ref aGw, .ref aGs, .int (iI kn)])), (aGn, .inl (gI g, 200, .inl (ar nd))), (aGw, .inl (gI g, 200, .inl (ar wk))), (aP, .inr (6, [.ref aPx, .ref aPy, .int (iI pn)])), (aPx, .inl (gI g, 200, .inl (ar bx))), (aPy, .inl (gI g, 200, .inl (ar byy))), (aYt, .inl (gI g, 36, .inl (ar yt))), (aT, .inr (9, [.ref aTp, .ref aTt, .ref aTx, .ref aTy, .ref aE, .int (iI ld)])), (aTp, .inl (gI g, 200, .inl (ar tp))), (aTt, .inl (gI g, 200, .inl (ar tt))), (aTx, .inl (gI g, 200, .inl (ar kx))), (aTy, .inl (gI g, 200, .inl (ar ky))), (aF, .inr (3, [.int (iI zfx), .int (iI zfy), .int (iI zfhx), .int (iI zfhy)])), (aN, .inl (gI g, 1960, .inl (ar F)))]) hC hP hD hS hA [0, 7, 8, 10] [1, 2, 3, 4, 5, 6, 9, 11, 12, 13, 14, 15, 16, 17] [14, 0, 1, 2, 3, 4, 5, 15, 16, 6, 17, 7, 8, 9, 10, 11, 12, 13] rfl rfl (fun hpre => vx_runSW (As := [.ref aR, .int (iI zs)]) (rest := []) ⟨hx, hb, hml, hown, hts⟩ (c_L_hoursToCure l hflags g H.size aR aG aP aH aY aT aS aF aX aYh aYt aYc pr tk tol hou zs ht yc (by first | (first | assumption | omega | exact bnd_up (by assumption) (by omega) (by omega)) | fail "q8") (by first | (first | assumption | omega | exact bnd_up (by assumption) (by omega) (by omega)) | fail "q8") (by first | (first | assumption | omega | exact bnd_up (by assumption) (by omega) (by omega)) | fail "q8") (by first | (first | assumption | omega | exact bnd_up (by assumption) (by omega) (by omega)) | fail "q8")) (vx_cwSW 2 hts gL_areRings_L_hoursToCure rfl rfl rfl (by decide +kernel) ⟨Nat.le_of_ble_eq_true rfl, Nat.le_of_ble_eq_true rfl⟩) ⟨xB_blind, hpre _⟩ rfl rfl hl.1 rfl (lv_room (Nat.le_of_ble_eq_true rfl)) dL_areRings_299 ⟨(show cz169 + 5 ≤ 2000 by omega), (show sz169 + 30 ≤ 14000 by omega)⟩) (fun (u : Unit) => [(aR, .inr (11, [.ref aG, .ref aP, .ref aH, .ref aY, .ref aT, .ref aS, .ref aF, .ref aX, .int (iI pr), .int (iI tk), .int (iI tol), .int (iI hou)])), (aG, .inr (4, [.ref aGn, .ref aGw, .ref aGs, .int (iI kn)])), (aGn, .inl (gI g, 200, .inl (ar nd))), (aGw, .inl (gI g, 200, .inl (ar wk))), (aP, .inr (6, [.ref aPx, .ref aPy, .int (iI pn)])), (aPx, .inl (gI g, 200, .inl (ar bx))), (aPy, .inl (gI g, 200, .inl (ar byy))), (aY, .inr (10, [.ref aYh, .ref aYt, .ref aYc])), (aYh, .inl (gI g, 3, .inl (ar ht))), (aYt, .inl (gI g, 36, .inl (ar yt))), (aYc, .inl (gI g, 36, .inl (ar yc))), (aT, .inr (9, [.ref aTp, .ref aTt, .ref aTx, .ref aTy, .ref aE, .int (iI ld)])), (aTp, .inl (gI g, 200, .inl (ar tp))), (aTt, .inl (gI g, 200, .inl (ar tt))), (aTx, .inl (gI g, 200, .inl (ar kx))), (aTy, .inl (gI g, 200, .inl (ar ky))), (aF, .inr (3, [.int (iI zfx), .int (iI zfy), .int (iI zfhx), .int (iI zfhy)])), (aN, .inl (gI g, 1960, .inl (ar F)))]) rfl rfl (by decide) (fun _ => rfl) rfl (fun u v_52 H locs hv_52 pv_52 hP hD hS => ?_)
                            have hP : va_P (gD g) vwCl [(aR, .inr (11, [.ref aG, .ref aP, .ref aH, .ref aY, .ref aT, .ref aS, .ref aF, .ref aX, .int (iI pr), .int (iI tk), .int (iI tol), .int (iI hou)])), (aG, .inr (4, [.ref aGn, .ref aGw, .ref aGs, .int (iI kn)])), (aGn, .inl (gI g, 200, .inl (ar nd))), (aGw, .inl (gI g, 200, .inl (ar wk))), (aP, .inr (6, [.ref aPx, .ref aPy, .int (iI pn)])), (aPx, .inl (gI g, 200, .inl (ar bx))), (aPy, .inl (gI g, 200, .inl (ar byy))), (aY, .inr (10, [.ref aYh, .ref aYt, .ref aYc])), (aYh, .inl (gI g, 3, .inl (ar ht))), (aYt, .inl (gI g, 36, .inl (ar yt))), (aYc, .inl (gI g, 36, .inl (ar yc))), (aT, .inr (9, [.ref aTp, .ref aTt, .ref aTx, .ref aTy, .ref aE, .int (iI ld)])), (aTp, .inl (gI g, 200, .inl (ar tp))), (aTt, .inl (gI g, 200, .inl (ar tt))), (aTx, .inl (gI g, 200, .inl (ar kx))), (aTy, .inl (gI g, 200, .inl (ar ky))), (aF, .inr (3, [.int (iI zfx), .int (iI zfy), .int (iI zfhx), .int (iI zfhy)])), (aN, .inl (gI g, 1960, .inl (ar F)))] H := hP
                            have hD : va_D A [(aR, .inr (11, [.ref aG, .ref aP, .ref aH, .ref aY, .ref aT, .ref aS, .ref aF, .ref aX, .int (iI pr), .int (iI tk), .int (iI tol), .int (iI hou)])), (aG, .inr (4, [.ref aGn, .ref aGw, .ref aGs, .int (iI kn)])), (aGn, .inl (gI g, 200, .inl (ar nd))), (aGw, .inl (gI g, 200, .inl (ar wk))), (aP, .inr (6, [.ref aPx, .ref aPy, .int (iI pn)])), (aPx, .inl (gI g, 200, .inl (ar bx))), (aPy, .inl (gI g, 200, .inl (ar byy))), (aY, .inr (10, [.ref aYh, .ref aYt, .ref aYc])), (aYh, .inl (gI g, 3, .inl (ar ht))), (aYt, .inl (gI g, 36, .inl (ar yt))), (aYc, .inl (gI g, 36, .inl (ar yc))), (aT, .inr (9, [.ref aTp, .ref aTt, .ref aTx, .ref aTy, .ref aE, .int (iI ld)])), (aTp, .inl (gI g, 200, .inl (ar tp))), (aTt, .inl (gI g, 200, .inl (ar tt))), (aTx, .inl (gI g, 200, .inl (ar kx))), (aTy, .inl (gI g, 200, .inl (ar ky))), (aF, .inr (3, [.int (iI zfx), .int (iI zfy), .int (iI zfhx), .int (iI zfhy)])), (aN, .inl (gI g, 1960, .inl (ar F)))] := hD
                            have hv_52 : v_52 = (if emT ht zs = 0 then mx 0 (yc (zs * 12 + (ht zs - 1)) + 24 - hou) else -900000 - emT ht zs) := hv_52
                            refine lv_iload hx hb dL_areRings_302 (lv_at hl 2 rfl) ?_
                            refine x_if_le (tgt := 316) hx hb (by omega) dL_areRings_304 (by decide) (fun c_53 => ?_) (fun c_53 => ?_)
                            · skip
                              refine lv_iload hx hb dL_areRings_316 (lv_at hl 0 rfl) ?_
                              refine x_cmp_eq (tgt := 323) hx hb (by omega) (by omega) dL_areRings_318 (by decide) (fun c_54 => ?_) (fun c_54 => ?_)
                              · skip
                                refine x_iinc (k := 3) (lv' := [(4, .int (iI (zs + 1))), (6, .int (iI v_47)), (3, .int (iI v_42)), (5, .int (iI v_40)), (2, .int (iI zi)), (0, .ref aR), (1, .ref aN)]) hx hb dL_areRings_323 hl rfl (by decide) rfl (fun ls hl => ?_)
                                refine lv_goto (tgt := 151) hx hb dL_areRings_326 (by decide) ?_
                                exact ih151 (zs + 1) zi v_42 _ _ (by omega) (by omega) (show 0 ≤ (zs + 1) ∧ (zs + 1) ≤ 3 by
                                    first
                                    | (
                                       first | assumption | omega | rfl)
                                    | fail "q9") (show zi = sumI (cuF ht yc hou) (zs + 1) by
                                    first
                                    | (
                                       rw [sumI_step _ (by omega), ← hzc, hzi, show zj = ht zs by omega]
                                       rfl)
                                    | fail "q9") (show v_42 = sumI ht (zs + 1) by
                                    first
                                    | (
                                       rw [sumI_step _ (by omega)]
                                       omega)
                                    | fail "q9") (by
                                    first
                                    | (
                                       omega)
                                    | fail "q9") _ _ hP hD hS ls (lv_sub hl [0, 2, 4, 5, 6] rfl)
                              · skip
                                exfalso
                                first
                                | (
                                   omega)
                                | fail "q9"
                            · skip
                              refine lv_iload hx hb dL_areRings_307 (lv_at hl 0 rfl) ?_
                              refine x_if_ge (tgt := 316) hx hb (by omega) dL_areRings_309 (by decide) (fun c_55 => ?_) (fun c_55 => ?_)
                              · skip
                                refine lv_iload hx hb dL_areRings_316 (lv_at hl 0 rfl) ?_
                                refine x_cmp_eq (tgt := 323) hx hb (by omega) (by omega) dL_areRings_318 (by decide) (fun c_56 => ?_) (fun c_56 => ?_)
                                · skip
                                  refine x_iinc (k := 3) (lv' := [(4, .int (iI (zs + 1))), (6, .int (iI v_47)), (3, .int (iI v_42)), (5, .int (iI v_40)), (2, .int (iI zi)), (0, .ref aR), (1, .ref aN)]) hx hb dL_areRings_323 hl rfl (by decide) rfl (fun ls hl => ?_)
                                  refine lv_goto (tgt := 151) hx hb dL_areRings_326 (by decide) ?_
                                  exact ih151 (zs + 1) zi v_42 _ _ (by omega) (by omega) (show 0 ≤ (zs + 1) ∧ (zs + 1) ≤ 3 by
                                      first
                                      | (
                                         first | assumption | omega | rfl)
                                      | fail "q9") (show zi = sumI (cuF ht yc hou) (zs + 1) by
                                      first
                                      | (
                                         rw [sumI_step _ (by omega), ← hzc, hzi, show zj = ht zs by omega]
                                         rfl)
                                      | fail "q9") (show v_42 = sumI ht (zs + 1) by
                                      first
                                      | (
                                         rw [sumI_step _ (by omega)]
                                         omega)
                                      | fail "q9") (by
                                      first
                                      | (
                                         omega)
                                      | fail "q9") _ _ hP hD hS ls (lv_sub hl [0, 2, 4, 5, 6] rfl)
                                · skip
                                  exfalso
                                  first
                                  | (
                                     omega)
                                  | fail "q9"
                              · skip
                                refine x_iconst hx hb dL_areRings_312 ?_
                                refine lv_goto (tgt := 318) hx hb dL_areRings_313 (by decide) ?_
                                refine x_cmp_eq (tgt := 323) hx hb (by omega) (by omega) dL_areRings_318 (by decide) (fun c_57 => ?_) (fun c_57 => ?_)
                                · skip
                                  refine x_iinc (k := 3) (lv' := [(4, .int (iI (zs + 1))), (6, .int (iI v_47)), (3, .int (iI v_42)), (5, .int (iI v_40)), (2, .int (iI zi)), (0, .ref aR), (1, .ref aN)]) hx hb dL_areRings_323 hl rfl (by decide) rfl (fun ls hl => ?_)
                                  refine lv_goto (tgt := 151) hx hb dL_areRings_326 (by decide) ?_
                                  exact ih151 (zs + 1) zi v_42 _ _ (by omega) (by omega) (show 0 ≤ (zs + 1) ∧ (zs + 1) ≤ 3 by
                                      first
                                      | (
                                         first | assumption | omega | rfl)
                                      | fail "q9") (show zi = sumI (cuF ht yc hou) (zs + 1) by
                                      first
                                      | (
                                         rw [sumI_step _ (by omega), ← hzc, hzi, show zj = ht zs by omega]
                                         rfl)
                                      | fail "q9") (show v_42 = sumI ht (zs + 1) by
                                      first
                                      | (
                                         rw [sumI_step _ (by omega)]
                                         omega)
                                      | fail "q9") (by
                                      first
                                      | (
                                         omega)
                                      | fail "q9") _ _ hP hD hS ls (lv_sub hl [0, 2, 4, 5, 6] rfl)
                                · skip
                                  exfalso
                                  first
                                  | (
                                     omega)
                                  | fail "q9"
                      · skip
                        refine x_ldc (v := -900002) hx hb hown (hts (.constant RL 20 (-900002)) (List.mem_of_getElem? (i := 1) rfl)) (by decide) dL_areRings_248 ?_
                        refine lv_goto (tgt := 270) hx hb dL_areRings_250 (by decide) ?_
                        have hT1 : stT zs = 0 := by unfold stT; omega
                        have hT2 : taT ht zs v_40 = 2 := by unfold taT; omega
                        have hT3 : emT ht zs = (if ht zs = 0 then 2 else 0) := by unfold emT; omega
                        have hcm2 := mx_r 0 (yc (zs * 12 + (ht zs - 1)) + 24 - hou) rfl
                        have hyc2 := hb_yc (zs * 12 + (ht zs - 1))
                        obtain ⟨v_58, ev_58⟩ : ∃ z : Int, z = -900002 := ⟨_, rfl⟩
                        refine x_top ev_58.symm ?_
                        refine lv_istore (lv' := [(6, .int (iI v_58)), (3, .int (iI v_42)), (5, .int (iI v_40)), (4, .int (iI zs)), (2, .int (iI zi)), (0, .ref aR), (1, .ref aN)]) hx hb dL_areRings_270 hl (by decide) rfl (fun ls hl => ?_)
                        refine lv_aload_n hx hb dL_areRings_272 rfl (lv_at hl 5 rfl) ?_
                        refine lv_iload hx hb dL_areRings_273 (lv_at hl 3 rfl) ?_
                        refine x_calli (S := Unit) (wc := [(aR, .inr (11, [.ref aG, .ref aP, .ref aH, .ref aY, .ref aT, .ref aS, .ref aF, .ref aX, .int (iI pr), .int (iI tk), .int (iI tol), .int (iI hou)])), (aY, .inr (10, [.ref aYh, .ref aYt, .ref aYc])), (aYh, .inl (gI g, 3, .inl (ar ht)))]) (wr := [(aG, .inr (4, [.ref aGn, .ref aGw, .ref aGs, .int (iI kn)])), (aGn, .inl (gI g, 200, .inl (ar nd))), (aGw, .inl (gI g, 200, .inl (ar wk))), (aP, .inr (6, [.ref aPx, .ref aPy, .int (iI pn)])), (aPx, .inl (gI g, 200, .inl (ar bx))), (aPy, .inl (gI g, 200, .inl (ar byy))), (aYt, .inl (gI g, 36, .inl (ar yt))), (aYc, .inl (gI g, 36, .inl (ar yc))), (aT, .inr (9, [.ref aTp, .ref aTt, .ref aTx, .ref aTy, .ref aE, .int (iI ld)])), (aTp, .inl (gI g, 200, .inl (ar tp))), (aTt, .inl (gI g, 200, .inl (ar tt))), (aTx, .inl (gI g, 200, .inl (ar kx))), (aTy, .inl (gI g, 200, .inl (ar ky))), (aF, .inr (3, [.int (iI zfx), .int (iI zfy), .int (iI zfhx), .int (iI zfhy)])), (aN, .inl (gI g, 1960, .inl (ar F)))]) hC hP hD hS hA [0, 7, 8] [1, 2, 3, 4, 5, 6, 9, 10, 11, 12, 13, 14, 15, 16, 17] [15, 0, 1, 2, 3, 4, 5, 16, 17, 6, 7, 8, 9, 10, 11, 12, 13, 14] rfl rfl (fun hpre => vx_runSW (As := [.ref aR, .int (iI zs)]) (rest := []) ⟨hx, hb, hml, hown, hts⟩ (c_L_heightOf l hflags g H.size aR aG aP aH aY aT aS aF aX aYh aYt aYc pr tk tol hou zs ht (by first | (first | assumption | omega | exact bnd_up (by assumption) (by omega) (by omega)) | fail "q8") (by first | (first | assumption | omega | exact bnd_up (by assumption) (by omega) (by omega)) | fail "q8")) (vx_cwSW 2 hts gL_areRings_L_heightOf rfl rfl rfl (by decide +kernel) ⟨Nat.le_of_ble_eq_true rfl, Nat.le_of_ble_eq_true rfl⟩) ⟨xB_blind, hpre _⟩ rfl rfl hl.1 rfl (lv_room (Nat.le_of_ble_eq_true rfl)) dL_areRings_275 ⟨(show cz169 + 1 ≤ 2000 by omega), (show sz169 + 6 ≤ 14000 by omega)⟩) (fun (u : Unit) => [(aR, .inr (11, [.ref aG, .ref aP, .ref aH, .ref aY, .ref aT, .ref aS, .ref aF, .ref aX, .int (iI pr), .int (iI tk), .int (iI tol), .int (iI hou)])), (aG, .inr (4, [.ref aGn, .ref aGw, .ref aGs, .int (iI kn)])), (aGn, .inl (gI g, 200, .inl (ar nd))), (aGw, .inl (gI g, 200, .inl (ar wk))), (aP, .inr (6, [.ref aPx, .ref aPy, .int (iI pn)])), (aPx, .inl (gI g, 200, .inl (ar bx))), (aPy, .inl (gI g, 200, .inl (ar byy))), (aY, .inr (10, [.ref aYh, .ref aYt, .ref aYc])), (aYh, .inl (gI g, 3, .inl (ar ht))), (aYt, .inl (gI g, 36, .inl (ar yt))), (aYc, .inl (gI g, 36, .inl (ar yc))), (aT, .inr (9, [.ref aTp, .ref aTt, .ref aTx, .ref aTy, .ref aE, .int (iI ld)])), (aTp, .inl (gI g, 200, .inl (ar tp))), (aTt, .inl (gI g, 200, .inl (ar tt))), (aTx, .inl (gI g, 200, .inl (ar kx))), (aTy, .inl (gI g, 200, .inl (ar ky))), (aF, .inr (3, [.int (iI zfx), .int (iI zfy), .int (iI zfhx), .int (iI zfhy)])), (aN, .inl (gI g, 1960, .inl (ar F)))]) rfl rfl (by decide) (fun _ => rfl) rfl (fun u v_59 H locs hv_59 pv_59 hP hD hS => ?_)
                        have hP : va_P (gD g) vwCl [(aR, .inr (11, [.ref aG, .ref aP, .ref aH, .ref aY, .ref aT, .ref aS, .ref aF, .ref aX, .int (iI pr), .int (iI tk), .int (iI tol), .int (iI hou)])), (aG, .inr (4, [.ref aGn, .ref aGw, .ref aGs, .int (iI kn)])), (aGn, .inl (gI g, 200, .inl (ar nd))), (aGw, .inl (gI g, 200, .inl (ar wk))), (aP, .inr (6, [.ref aPx, .ref aPy, .int (iI pn)])), (aPx, .inl (gI g, 200, .inl (ar bx))), (aPy, .inl (gI g, 200, .inl (ar byy))), (aY, .inr (10, [.ref aYh, .ref aYt, .ref aYc])), (aYh, .inl (gI g, 3, .inl (ar ht))), (aYt, .inl (gI g, 36, .inl (ar yt))), (aYc, .inl (gI g, 36, .inl (ar yc))), (aT, .inr (9, [.ref aTp, .ref aTt, .ref aTx, .ref aTy, .ref aE, .int (iI ld)])), (aTp, .inl (gI g, 200, .inl (ar tp))), (aTt, .inl (gI g, 200, .inl (ar tt))), (aTx, .inl (gI g, 200, .inl (ar kx))), (aTy, .inl (gI g, 200, .inl (ar ky))), (aF, .inr (3, [.int (iI zfx), .int (iI zfy), .int (iI zfhx), .int (iI zfhy)])), (aN, .inl (gI g, 1960, .inl (ar F)))] H := hP
                        have hD : va_D A [(aR, .inr (11, [.ref aG, .ref aP, .ref aH, .ref aY, .ref aT, .ref aS, .ref aF, .ref aX, .int (iI pr), .int (iI tk), .int (iI tol), .int (iI hou)])), (aG, .inr (4, [.ref aGn, .ref aGw, .ref aGs, .int (iI kn)])), (aGn, .inl (gI g, 200, .inl (ar nd))), (aGw, .inl (gI g, 200, .inl (ar wk))), (aP, .inr (6, [.ref aPx, .ref aPy, .int (iI pn)])), (aPx, .inl (gI g, 200, .inl (ar bx))), (aPy, .inl (gI g, 200, .inl (ar byy))), (aY, .inr (10, [.ref aYh, .ref aYt, .ref aYc])), (aYh, .inl (gI g, 3, .inl (ar ht))), (aYt, .inl (gI g, 36, .inl (ar yt))), (aYc, .inl (gI g, 36, .inl (ar yc))), (aT, .inr (9, [.ref aTp, .ref aTt, .ref aTx, .ref aTy, .ref aE, .int (iI ld)])), (aTp, .inl (gI g, 200, .inl (ar tp))), (aTt, .inl (gI g, 200, .inl (ar tt))), (aTx, .inl (gI g, 200, .inl (ar kx))), (aTy, .inl (gI g, 200, .inl (ar ky))), (aF, .inr (3, [.int (iI zfx), .int (iI zfy), .int (iI zfhx), .int (iI zfhy)])), (aN, .inl (gI g, 1960, .inl (ar F)))] := hD
                        have hv_59 : v_59 = (if stT zs = 0 then ht zs else -900000 - stT zs) := hv_59
                        refine lv_iload hx hb dL_areRings_278 (lv_at hl 2 rfl) ?_
                        refine x_cmp_ne (tgt := 321) hx hb (by omega) (by omega) dL_areRings_280 (by decide) (fun c_60 => ?_) (fun c_60 => ?_)
                        · skip
                          exfalso
                          first
                          | (
                             omega)
                          | fail "q9"
                        · skip
                          refine lv_aload_n hx hb dL_areRings_283 rfl (lv_at hl 5 rfl) ?_
                          refine lv_iload hx hb dL_areRings_284 (lv_at hl 3 rfl) ?_
                          refine lv_iload hx hb dL_areRings_286 (lv_at hl 2 rfl) ?_
                          refine x_calli (S := Unit) (wc := [(aR, .inr (11, [.ref aG, .ref aP, .ref aH, .ref aY, .ref aT, .ref aS, .ref aF, .ref aX, .int (iI pr), .int (iI tk), .int (iI tol), .int (iI hou)])), (aY, .inr (10, [.ref aYh, .ref aYt, .ref aYc])), (aYh, .inl (gI g, 3, .inl (ar ht))), (aYt, .inl (gI g, 36, .inl (ar yt)))]) (wr := [(aG, .inr (4, [.ref aGn, .ref aGw, .ref aGs, .int (iI kn)])), (aGn, .inl (gI g, 200, .inl (ar nd))), (aGw, .inl (gI g, 200, .inl (ar wk))), (aP, .inr (6, [.ref aPx, .ref aPy, .int (iI pn)])), (aPx, .inl (gI g, 200, .inl (ar bx))), (aPy, .inl (gI g, 200, .inl (ar byy))), (aYc, .inl (gI g, 36, .inl (ar yc))), (aT, .inr (9, [.ref aTp, .ref aTt, .ref aTx, .ref aTy, .ref aE, .int (iI ld)])), (aTp, .inl (gI g, 200, .inl (ar tp))), (aTt, .inl (gI g, 200, .inl (ar tt))), (aTx, .inl (gI g, 200, .inl (ar kx))), (aTy, .inl (gI g, 200, .inl (ar ky))), (aF, .inr (3, [.int (iI zfx), .int (iI zfy), .int (iI zfhx), .int (iI zfhy)])), (aN, .inl (gI g, 1960, .inl (ar F)))]) hC hP hD hS hA [0, 7, 8, 9] [1, 2, 3, 4, 5, 6, 10, 11, 12, 13, 14, 15, 16, 17] [14, 0, 1, 2, 3, 4, 5, 15, 16, 17, 6, 7, 8, 9, 10, 11, 12, 13] rfl rfl (fun hpre => vx_runSW (As := [.ref aR, .int (iI zs), .int (iI v_40)]) (rest := []) ⟨hx, hb, hml, hown, hts⟩ (c_L_taperAt l hflags g H.size aR aG aP aH aY aT aS aF aX aYh aYt aYc pr tk tol hou zs v_40 ht yt (by first | (first | assumption | omega | exact bnd_up (by assumption) (by omega) (by omega)) | fail "q8") (by first | (first | assumption | omega | exact bnd_up (by assumption) (by omega) (by omega)) | fail "q8") (by first | (first | assumption | omega | exact bnd_up (by assumption) (by omega) (by omega)) | fail "q8")) (vx_cwSW 3 hts gL_areRings_L_taperAt rfl rfl rfl (by decide +kernel) ⟨Nat.le_of_ble_eq_true rfl, Nat.le_of_ble_eq_true rfl⟩) ⟨xB_blind, hpre _⟩ rfl rfl hl.1 rfl (lv_room (Nat.le_of_ble_eq_true rfl)) dL_areRings_288 ⟨(show cz169 + 3 ≤ 2000 by omega), (show sz169 + 18 ≤ 14000 by omega)⟩) (fun (u : Unit) => [(aR, .inr (11, [.ref aG, .ref aP, .ref aH, .ref aY, .ref aT, .ref aS, .ref aF, .ref aX, .int (iI pr), .int (iI tk), .int (iI tol), .int (iI hou)])), (aG, .inr (4, [.ref aGn, .ref aGw, .ref aGs, .int (iI kn)])), (aGn, .inl (gI g, 200, .inl (ar nd))), (aGw, .inl (gI g, 200, .inl (ar wk))), (aP, .inr (6, [.ref aPx, .ref aPy, .int (iI pn)])), (aPx, .inl (gI g, 200, .inl (ar bx))), (aPy, .inl (gI g, 200, .inl (ar byy))), (aY, .inr (10, [.ref aYh, .ref aYt, .ref aYc])), (aYh, .inl (gI g, 3, .inl (ar ht))), (aYt, .inl (gI g, 36, .inl (ar yt))), (aYc, .inl (gI g, 36, .inl (ar yc))), (aT, .inr (9, [.ref aTp, .ref aTt, .ref aTx, .ref aTy, .ref aE, .int (iI ld)])), (aTp, .inl (gI g, 200, .inl (ar tp))), (aTt, .inl (gI g, 200, .inl (ar tt))), (aTx, .inl (gI g, 200, .inl (ar kx))), (aTy, .inl (gI g, 200, .inl (ar ky))), (aF, .inr (3, [.int (iI zfx), .int (iI zfy), .int (iI zfhx), .int (iI zfhy)])), (aN, .inl (gI g, 1960, .inl (ar F)))]) rfl rfl (by decide) (fun _ => rfl) rfl (fun u v_61 H locs hv_61 pv_61 hP hD hS => ?_)
                          have hP : va_P (gD g) vwCl [(aR, .inr (11, [.ref aG, .ref aP, .ref aH, .ref aY, .ref aT, .ref aS, .ref aF, .ref aX, .int (iI pr), .int (iI tk), .int (iI tol), .int (iI hou)])), (aG, .inr (4, [.ref aGn, .ref aGw, .ref aGs, .int (iI kn)])), (aGn, .inl (gI g, 200, .inl (ar nd))), (aGw, .inl (gI g, 200, .inl (ar wk))), (aP, .inr (6, [.ref aPx, .ref aPy, .int (iI pn)])), (aPx, .inl (gI g, 200, .inl (ar bx))), (aPy, .inl (gI g, 200, .inl (ar byy))), (aY, .inr (10, [.ref aYh, .ref aYt, .ref aYc])), (aYh, .inl (gI g, 3, .inl (ar ht))), (aYt, .inl (gI g, 36, .inl (ar yt))), (aYc, .inl (gI g, 36, .inl (ar yc))), (aT, .inr (9, [.ref aTp, .ref aTt, .ref aTx, .ref aTy, .ref aE, .int (iI ld)])), (aTp, .inl (gI g, 200, .inl (ar tp))), (aTt, .inl (gI g, 200, .inl (ar tt))), (aTx, .inl (gI g, 200, .inl (ar kx))), (aTy, .inl (gI g, 200, .inl (ar ky))), (aF, .inr (3, [.int (iI zfx), .int (iI zfy), .int (iI zfhx), .int (iI zfhy)])), (aN, .inl (gI g, 1960, .inl (ar F)))] H := hP
                          have hD : va_D A [(aR, .inr (11, [.ref aG, .ref aP, .ref aH, .ref aY, .ref aT, .ref aS, .ref aF, .ref aX, .int (iI pr), .int (iI tk), .int (iI tol), .int (iI hou)])), (aG, .inr (4, [.ref aGn, .ref aGw, .ref aGs, .int (iI kn)])), (aGn, .inl (gI g, 200, .inl (ar nd))), (aGw, .inl (gI g, 200, .inl (ar wk))), (aP, .inr (6, [.ref aPx, .ref aPy, .int (iI pn)])), (aPx, .inl (gI g, 200, .inl (ar bx))), (aPy, .inl (gI g, 200, .inl (ar byy))), (aY, .inr (10, [.ref aYh, .ref aYt, .ref aYc])), (aYh, .inl (gI g, 3, .inl (ar ht))), (aYt, .inl (gI g, 36, .inl (ar yt))), (aYc, .inl (gI g, 36, .inl (ar yc))), (aT, .inr (9, [.ref aTp, .ref aTt, .ref aTx, .ref aTy, .ref aE, .int (iI ld)])), (aTp, .inl (gI g, 200, .inl (ar tp))), (aTt, .inl (gI g, 200, .inl (ar tt))), (aTx, .inl (gI g, 200, .inl (ar kx))), (aTy, .inl (gI g, 200, .inl (ar ky))), (aF, .inr (3, [.int (iI zfx), .int (iI zfy), .int (iI zfhx), .int (iI zfhy)])), (aN, .inl (gI g, 1960, .inl (ar F)))] := hD
                          have hv_61 : v_61 = (if taT ht zs v_40 = 0 then yt (zs * 12 + v_40) else -900000 - taT ht zs v_40) := hv_61
                          refine x_ldc (v := -900002) hx hb hown (hts (.constant RL 20 (-900002)) (List.mem_of_getElem? (i := 1) rfl)) (by decide) dL_areRings_291 ?_
                          refine x_cmp_ne (tgt := 321) hx hb (by omega) (by omega) dL_areRings_293 (by decide) (fun c_62 => ?_) (fun c_62 => ?_)
                          · skip
                            exfalso
                            first
                            | (
                               omega)
                            | fail "q9"
                          · skip
                            refine lv_aload_n hx hb dL_areRings_296 rfl (lv_at hl 5 rfl) ?_
                            refine lv_iload hx hb dL_areRings_297 (lv_at hl 3 rfl) ?_
                            refine x_calli (S := Unit) (wc := [(aR, .inr (11, [.ref aG, .ref aP, .ref aH, .ref aY, .ref aT, .ref aS, .ref aF, .ref aX, .int (iI pr), .int (iI tk), .int (iI tol), .int (iI hou)])), (aY, .inr (10, [.ref aYh, .ref aYt, .ref aYc])), (aYh, .inl (gI g, 3, .inl (ar ht))), (aYc, .inl (gI g, 36, .inl (ar yc)))]) (wr := [(aG, .inr (4, [.ref aGn, .ref aGw, .ref aGs, .int (iI kn)])), (aGn, .inl (gI g, 200, .inl (ar nd))), (aGw, .inl (gI g, 200, .inl (ar wk))), (aP, .inr (6, [.ref aPx, .ref aPy, .int (iI pn)])), (aPx, .inl (gI g, 200, .inl (ar bx))), (aPy, .inl (gI g, 200, .inl (ar byy))), (aYt, .inl (gI g, 36, .inl (ar yt))), (aT, .inr (9, [.ref aTp, .ref aTt, .ref aTx, .ref aTy, .ref aE, .int (iI ld)])), (aTp, .inl (gI g, 200, .inl (ar tp))), (aTt, .inl (gI g, 200, .inl (ar tt))), (aTx, .inl (gI g, 200, .inl (ar kx))), (aTy, .inl (gI g, 200, .inl (ar ky))), (aF, .inr (3, [.int (iI zfx), .int (iI zfy), .int (iI zfhx), .int (iI zfhy)])), (aN, .inl (gI g, 1960, .inl (ar F)))]) hC hP hD hS hA [0, 7, 8, 10] [1, 2, 3, 4, 5, 6, 9, 11, 12, 13, 14, 15, 16, 17] [14, 0, 1, 2, 3, 4, 5, 15, 16, 6, 17, 7, 8, 9, 10, 11, 12, 13] rfl rfl (fun hpre => vx_runSW (As := [.ref aR, .int (iI zs)]) (rest := []) ⟨hx, hb, hml, hown, hts⟩ (c_L_hoursToCure l hflags g H.size aR aG aP aH aY aT aS aF aX aYh aYt aYc pr tk tol hou zs ht yc (by first | (first | assumption | omega | exact bnd_up (by assumption) (by omega) (by omega)) | fail "q8") (by first | (first | assumption | omega | exact bnd_up (by assumption) (by omega) (by omega)) | fail "q8") (by first | (first | assumption | omega | exact bnd_up (by assumption) (by omega) (by omega)) | fail "q8") (by first | (first | assumption | omega | exact bnd_up (by assumption) (by omega) (by omega)) | fail "q8")) (vx_cwSW 2 hts gL_areRings_L_hoursToCure rfl rfl rfl (by decide +kernel) ⟨Nat.le_of_ble_eq_true rfl, Nat.le_of_ble_eq_true rfl⟩) ⟨xB_blind, hpre _⟩ rfl rfl hl.1 rfl (lv_room (Nat.le_of_ble_eq_true rfl)) dL_areRings_299 ⟨(show cz169 + 5 ≤ 2000 by omega), (show sz169 + 30 ≤ 14000 by omega)⟩) (fun (u : Unit) => [(aR, .inr (11, [.ref aG, .ref aP, .ref aH, .ref aY, .ref aT, .ref aS, .ref aF, .ref aX, .int (iI pr), .int (iI tk), .int (iI tol), .int (iI hou)])), (aG, .inr (4, [.ref aGn, .ref aGw, .ref aGs, .int (iI kn)])), (aGn, .inl (gI g, 200, .inl (ar nd))), (aGw, .inl (gI g, 200, .inl (ar wk))), (aP, .inr (6, [.ref aPx, .ref aPy, .int (iI pn)])), (aPx, .inl (gI g, 200, .inl (ar bx))), (aPy, .inl (gI g, 200, .inl (ar byy))), (aY, .inr (10, [.ref aYh, .ref aYt, .ref aYc])), (aYh, .inl (gI g, 3, .inl (ar ht))), (aYt, .inl (gI g, 36, .inl (ar yt))), (aYc, .inl (gI g, 36, .inl (ar yc))), (aT, .inr (9, [.ref aTp, .ref aTt, .ref aTx, .ref aTy, .ref aE, .int (iI ld)])), (aTp, .inl (gI g, 200, .inl (ar tp))), (aTt, .inl (gI g, 200, .inl (ar tt))), (aTx, .inl (gI g, 200, .inl (ar kx))), (aTy, .inl (gI g, 200, .inl (ar ky))), (aF, .inr (3, [.int (iI zfx), .int (iI zfy), .int (iI zfhx), .int (iI zfhy)])), (aN, .inl (gI g, 1960, .inl (ar F)))]) rfl rfl (by decide) (fun _ => rfl) rfl (fun u v_63 H locs hv_63 pv_63 hP hD hS => ?_)
                            have hP : va_P (gD g) vwCl [(aR, .inr (11, [.ref aG, .ref aP, .ref aH, .ref aY, .ref aT, .ref aS, .ref aF, .ref aX, .int (iI pr), .int (iI tk), .int (iI tol), .int (iI hou)])), (aG, .inr (4, [.ref aGn, .ref aGw, .ref aGs, .int (iI kn)])), (aGn, .inl (gI g, 200, .inl (ar nd))), (aGw, .inl (gI g, 200, .inl (ar wk))), (aP, .inr (6, [.ref aPx, .ref aPy, .int (iI pn)])), (aPx, .inl (gI g, 200, .inl (ar bx))), (aPy, .inl (gI g, 200, .inl (ar byy))), (aY, .inr (10, [.ref aYh, .ref aYt, .ref aYc])), (aYh, .inl (gI g, 3, .inl (ar ht))), (aYt, .inl (gI g, 36, .inl (ar yt))), (aYc, .inl (gI g, 36, .inl (ar yc))), (aT, .inr (9, [.ref aTp, .ref aTt, .ref aTx, .ref aTy, .ref aE, .int (iI ld)])), (aTp, .inl (gI g, 200, .inl (ar tp))), (aTt, .inl (gI g, 200, .inl (ar tt))), (aTx, .inl (gI g, 200, .inl (ar kx))), (aTy, .inl (gI g, 200, .inl (ar ky))), (aF, .inr (3, [.int (iI zfx), .int (iI zfy), .int (iI zfhx), .int (iI zfhy)])), (aN, .inl (gI g, 1960, .inl (ar F)))] H := hP
                            have hD : va_D A [(aR, .inr (11, [.ref aG, .ref aP, .ref aH, .ref aY, .ref aT, .ref aS, .ref aF, .ref aX, .int (iI pr), .int (iI tk), .int (iI tol), .int (iI hou)])), (aG, .inr (4, [.ref aGn, .ref aGw, .ref aGs, .int (iI kn)])), (aGn, .inl (gI g, 200, .inl (ar nd))), (aGw, .inl (gI g, 200, .inl (ar wk))), (aP, .inr (6, [.ref aPx, .ref aPy, .int (iI pn)])), (aPx, .inl (gI g, 200, .inl (ar bx))), (aPy, .inl (gI g, 200, .inl (ar byy))), (aY, .inr (10, [.ref aYh, .ref aYt, .ref aYc])), (aYh, .inl (gI g, 3, .inl (ar ht))), (aYt, .inl (gI g, 36, .inl (ar yt))), (aYc, .inl (gI g, 36, .inl (ar yc))), (aT, .inr (9, [.ref aTp, .ref aTt, .ref aTx, .ref aTy, .ref aE, .int (iI ld)])), (aTp, .inl (gI g, 200, .inl (ar tp))), (aTt, .inl (gI g, 200, .inl (ar tt))), (aTx, .inl (gI g, 200, .inl (ar kx))), (aTy, .inl (gI g, 200, .inl (ar ky))), (aF, .inr (3, [.int (iI zfx), .int (iI zfy), .int (iI zfhx), .int (iI zfhy)])), (aN, .inl (gI g, 1960, .inl (ar F)))] := hD
                            have hv_63 : v_63 = (if emT ht zs = 0 then mx 0 (yc (zs * 12 + (ht zs - 1)) + 24 - hou) else -900000 - emT ht zs) := hv_63
                            refine lv_iload hx hb dL_areRings_302 (lv_at hl 2 rfl) ?_
                            refine x_if_le (tgt := 316) hx hb (by omega) dL_areRings_304 (by decide) (fun c_64 => ?_) (fun c_64 => ?_)
                            · skip
                              refine lv_iload hx hb dL_areRings_316 (lv_at hl 0 rfl) ?_
                              refine x_cmp_eq (tgt := 323) hx hb (by omega) (by omega) dL_areRings_318 (by decide) (fun c_65 => ?_) (fun c_65 => ?_)
                              · skip
                                refine x_iinc (k := 3) (lv' := [(4, .int (iI (zs + 1))), (6, .int (iI v_58)), (3, .int (iI v_42)), (5, .int (iI v_40)), (2, .int (iI zi)), (0, .ref aR), (1, .ref aN)]) hx hb dL_areRings_323 hl rfl (by decide) rfl (fun ls hl => ?_)
                                refine lv_goto (tgt := 151) hx hb dL_areRings_326 (by decide) ?_
                                exact ih151 (zs + 1) zi v_42 _ _ (by omega) (by omega) (show 0 ≤ (zs + 1) ∧ (zs + 1) ≤ 3 by
                                    first
                                    | (
                                       first | assumption | omega | rfl)
                                    | fail "q9") (show zi = sumI (cuF ht yc hou) (zs + 1) by
                                    first
                                    | (
                                       rw [sumI_step _ (by omega), ← hzc, hzi, show zj = ht zs by omega]
                                       rfl)
                                    | fail "q9") (show v_42 = sumI ht (zs + 1) by
                                    first
                                    | (
                                       rw [sumI_step _ (by omega)]
                                       omega)
                                    | fail "q9") (by
                                    first
                                    | (
                                       omega)
                                    | fail "q9") _ _ hP hD hS ls (lv_sub hl [0, 2, 4, 5, 6] rfl)
                              · skip
                                exfalso
                                first
                                | (
                                   omega)
                                | fail "q9"
                            · skip
                              refine lv_iload hx hb dL_areRings_307 (lv_at hl 0 rfl) ?_
                              refine x_if_ge (tgt := 316) hx hb (by omega) dL_areRings_309 (by decide) (fun c_66 => ?_) (fun c_66 => ?_)
                              · skip
                                refine lv_iload hx hb dL_areRings_316 (lv_at hl 0 rfl) ?_
                                refine x_cmp_eq (tgt := 323) hx hb (by omega) (by omega) dL_areRings_318 (by decide) (fun c_67 => ?_) (fun c_67 => ?_)
                                · skip
                                  refine x_iinc (k := 3) (lv' := [(4, .int (iI (zs + 1))), (6, .int (iI v_58)), (3, .int (iI v_42)), (5, .int (iI v_40)), (2, .int (iI zi)), (0, .ref aR), (1, .ref aN)]) hx hb dL_areRings_323 hl rfl (by decide) rfl (fun ls hl => ?_)
                                  refine lv_goto (tgt := 151) hx hb dL_areRings_326 (by decide) ?_
                                  exact ih151 (zs + 1) zi v_42 _ _ (by omega) (by omega) (show 0 ≤ (zs + 1) ∧ (zs + 1) ≤ 3 by
                                      first
                                      | (
                                         first | assumption | omega | rfl)
                                      | fail "q9") (show zi = sumI (cuF ht yc hou) (zs + 1) by
                                      first
                                      | (
                                         rw [sumI_step _ (by omega), ← hzc, hzi, show zj = ht zs by omega]
                                         rfl)
                                      | fail "q9") (show v_42 = sumI ht (zs + 1) by
                                      first
                                      | (
                                         rw [sumI_step _ (by omega)]
                                         omega)
                                      | fail "q9") (by
                                      first
                                      | (
                                         omega)
                                      | fail "q9") _ _ hP hD hS ls (lv_sub hl [0, 2, 4, 5, 6] rfl)
                                · skip
                                  exfalso
                                  first
                                  | (
                                     omega)
                                  | fail "q9"
                              · skip
                                refine x_iconst hx hb dL_areRings_312 ?_
                                refine lv_goto (tgt := 318) hx hb dL_areRings_313 (by decide) ?_
                                refine x_cmp_eq (tgt := 323) hx hb (by omega) (by omega) dL_areRings_318 (by decide) (fun c_68 => ?_) (fun c_68 => ?_)
                                · skip
                                  refine x_iinc (k := 3) (lv' := [(4, .int (iI (zs + 1))), (6, .int (iI v_58)), (3, .int (iI v_42)), (5, .int (iI v_40)), (2, .int (iI zi)), (0, .ref aR), (1, .ref aN)]) hx hb dL_areRings_323 hl rfl (by decide) rfl (fun ls hl => ?_)
                                  refine lv_goto (tgt := 151) hx hb dL_areRings_326 (by decide) ?_
                                  exact ih151 (zs + 1) zi v_42 _ _ (by omega) (by omega) (show 0 ≤ (zs + 1) ∧ (zs + 1) ≤ 3 by
                                      first
                                      | (
                                         first | assumption | omega | rfl)
                                      | fail "q9") (show zi = sumI (cuF ht yc hou) (zs + 1) by
                                      first
                                      | (
                                         rw [sumI_step _ (by omega), ← hzc, hzi, show zj = ht zs by omega]
                                         rfl)
                                      | fail "q9") (show v_42 = sumI ht (zs + 1) by
                                      first
                                      | (
                                         rw [sumI_step _ (by omega)]
                                         omega)
                                      | fail "q9") (by
                                      first
                                      | (
                                         omega)
                                      | fail "q9") _ _ hP hD hS ls (lv_sub hl [0, 2, 4, 5, 6] rfl)
                                · skip
                                  exfalso
                                  first
                                  | (
                                     omega)
                                  | fail "q9"
                    · skip
                      have hT : taT ht zs zj = 0 := by unfold taT; omega
                      have hcm := mx_r 0 (yc (zs * 12 + zj) + 24 - hou) rfl
                      have hyc := hb_yc (zs * 12 + zj)
                      have hyt := hb_yt (zs * 12 + zj)
                      refine x_sipush hx hb dL_areRings_176 (by decide) ?_
                      refine x_bipush hx hb dL_areRings_179 (by decide) ?_
                      refine lv_iload hx hb dL_areRings_181 (lv_at hl 2 rfl) ?_
                      refine x_imul hx hb dL_areRings_183 ?_
                      refine x_iadd hx hb dL_areRings_184 ?_
                      refine x_iconst hx hb dL_areRings_185 ?_
                      refine lv_iload hx hb dL_areRings_186 (lv_at hl 0 rfl) ?_
                      refine x_imul hx hb dL_areRings_188 ?_
                      refine x_iadd hx hb dL_areRings_189 ?_
                      obtain ⟨v_69, ev_69⟩ : ∃ z : Int, z = (1820 + (24 * zs)) + (2 * zj) := ⟨_, rfl⟩
                      refine x_top ev_69.symm ?_
                      refine lv_istore (lv' := [(7, .int (iI v_69)), (6, .int (iI zj)), (5, .int (iI v_40)), (4, .int (iI zs)), (3, .int (iI za)), (2, .int (iI zi)), (0, .ref aR), (1, .ref aN)]) hx hb dL_areRings_190 hl (by decide) rfl (fun ls hl => ?_)
                      refine lv_iload_n hx hb dL_areRings_192 rfl (lv_at hl 5 rfl) ?_
                      refine lv_aload_n hx hb dL_areRings_193 rfl (lv_at hl 7 rfl) ?_
                      refine x_iconst hx hb dL_areRings_194 ?_
                      refine x_iald hx hb hK hP 17 0 rfl rfl (by omega) (by omega) (Nat.le_of_ble_eq_true rfl) dL_areRings_195 (fun v_70 hv_70 => ?_)
                      refine x_top (show v_70 = hou by
                          first
                          | (
                             omega)
                          | fail "q9") ?_
                      refine lv_aload_n hx hb dL_areRings_196 rfl (lv_at hl 7 rfl) ?_
                      refine lv_iload hx hb dL_areRings_197 (lv_at hl 0 rfl) ?_
                      refine x_iconst hx hb dL_areRings_199 ?_
                      refine x_iadd hx hb dL_areRings_200 ?_
                      refine x_iald hx hb hK hP 17 0 rfl rfl (by omega) (by omega) (Nat.le_of_ble_eq_true rfl) dL_areRings_201 (fun v_71 hv_71 => ?_)
                      refine x_top (show v_71 = yc (zs * 12 + zj) by
                          first
                          | (
                             rw [hv_71, show v_69 + 1 = 1821 + 24 * zs + 2 * zj by omega]
                             exact (nst zs zj (by omega) (by omega) (by omega) (by omega)).2)
                          | fail "q9") ?_
                      refine x_isub hx hb dL_areRings_202 ?_
                      refine x_bipush hx hb dL_areRings_203 (by decide) ?_
                      refine x_cmp_lt (tgt := 212) hx hb (by omega) (by omega) dL_areRings_205 (by decide) (fun c_72 => ?_) (fun c_72 => ?_)
                      · skip
                        refine x_iconst hx hb dL_areRings_212 ?_
                        refine x_iadd hx hb dL_areRings_213 ?_
                        obtain ⟨v_73, ev_73⟩ : ∃ z : Int, z = zi + 0 := ⟨_, rfl⟩
                        refine x_top ev_73.symm ?_
                        refine lv_istore_n (lv' := [(2, .int (iI v_73)), (7, .int (iI v_69)), (6, .int (iI zj)), (5, .int (iI v_40)), (4, .int (iI zs)), (3, .int (iI za)), (0, .ref aR), (1, .ref aN)]) hx hb dL_areRings_214 rfl hl (by decide) rfl (fun ls hl => ?_)
                        refine lv_aload_n hx hb dL_areRings_215 rfl (lv_at hl 6 rfl) ?_
                        refine lv_iload hx hb dL_areRings_216 (lv_at hl 4 rfl) ?_
                        refine lv_iload hx hb dL_areRings_218 (lv_at hl 2 rfl) ?_
                        refine x_calli (S := Unit) (wc := [(aR, .inr (11, [.ref aG, .ref aP, .ref aH, .ref aY, .ref aT, .ref aS, .ref aF, .ref aX, .int (iI pr), .int (iI tk), .int (iI tol), .int (iI hou)])), (aY, .inr (10, [.ref aYh, .ref aYt, .ref aYc])), (aYh, .inl (gI g, 3, .inl (ar ht))), (aYt, .inl (gI g, 36, .inl (ar yt)))]) (wr := [(aG, .inr (4, [.ref aGn, .ref aGw, .ref aGs, .int (iI kn)])), (aGn, .inl (gI g, 200, .inl (ar nd))), (aGw, .inl (gI g, 200, .inl (ar wk))), (aP, .inr (6, [.ref aPx, .ref aPy, .int (iI pn)])), (aPx, .inl (gI g, 200, .inl (ar bx))), (aPy, .inl (gI g, 200, .inl (ar byy))), (aYc, .inl (gI g, 36, .inl (ar yc))), (aT, .inr (9, [.ref aTp, .ref aTt, .ref aTx, .ref aTy, .ref aE, .int (iI ld)])), (aTp, .inl (gI g, 200, .inl (ar tp))), (aTt, .inl (gI g, 200, .inl (ar tt))), (aTx, .inl (gI g, 200, .inl (ar kx))), (aTy, .inl (gI g, 200, .inl (ar ky))), (aF, .inr (3, [.int (iI zfx), .int (iI zfy), .int (iI zfhx), .int (iI zfhy)])), (aN, .inl (gI g, 1960, .inl (ar F)))]) hC hP hD hS hA [0, 7, 8, 9] [1, 2, 3, 4, 5, 6, 10, 11, 12, 13, 14, 15, 16, 17] [14, 0, 1, 2, 3, 4, 5, 15, 16, 17, 6, 7, 8, 9, 10, 11, 12, 13] rfl rfl (fun hpre => vx_runSW (As := [.ref aR, .int (iI zs), .int (iI zj)]) (rest := []) ⟨hx, hb, hml, hown, hts⟩ (c_L_taperAt l hflags g H.size aR aG aP aH aY aT aS aF aX aYh aYt aYc pr tk tol hou zs zj ht yt (by first | (first | assumption | omega | exact bnd_up (by assumption) (by omega) (by omega)) | fail "q8") (by first | (first | assumption | omega | exact bnd_up (by assumption) (by omega) (by omega)) | fail "q8") (by first | (first | assumption | omega | exact bnd_up (by assumption) (by omega) (by omega)) | fail "q8")) (vx_cwSW 3 hts gL_areRings_L_taperAt rfl rfl rfl (by decide +kernel) ⟨Nat.le_of_ble_eq_true rfl, Nat.le_of_ble_eq_true rfl⟩) ⟨xB_blind, hpre _⟩ rfl rfl hl.1 rfl (lv_room (Nat.le_of_ble_eq_true rfl)) dL_areRings_220 ⟨(show cz169 + 2 ≤ 2000 by omega), (show sz169 + 12 ≤ 14000 by omega)⟩) (fun (u : Unit) => [(aR, .inr (11, [.ref aG, .ref aP, .ref aH, .ref aY, .ref aT, .ref aS, .ref aF, .ref aX, .int (iI pr), .int (iI tk), .int (iI tol), .int (iI hou)])), (aG, .inr (4, [.ref aGn, .ref aGw, .ref aGs, .int (iI kn)])), (aGn, .inl (gI g, 200, .inl (ar nd))), (aGw, .inl (gI g, 200, .inl (ar wk))), (aP, .inr (6, [.ref aPx, .ref aPy, .int (iI pn)])), (aPx, .inl (gI g, 200, .inl (ar bx))), (aPy, .inl (gI g, 200, .inl (ar byy))), (aY, .inr (10, [.ref aYh, .ref aYt, .ref aYc])), (aYh, .inl (gI g, 3, .inl (ar ht))), (aYt, .inl (gI g, 36, .inl (ar yt))), (aYc, .inl (gI g, 36, .inl (ar yc))), (aT, .inr (9, [.ref aTp, .ref aTt, .ref aTx, .ref aTy, .ref aE, .int (iI ld)])), (aTp, .inl (gI g, 200, .inl (ar tp))), (aTt, .inl (gI g, 200, .inl (ar tt))), (aTx, .inl (gI g, 200, .inl (ar kx))), (aTy, .inl (gI g, 200, .inl (ar ky))), (aF, .inr (3, [.int (iI zfx), .int (iI zfy), .int (iI zfhx), .int (iI zfhy)])), (aN, .inl (gI g, 1960, .inl (ar F)))]) rfl rfl (by decide) (fun _ => rfl) rfl (fun u v_74 H locs hv_74 pv_74 hP hD hS => ?_)
                        have hP : va_P (gD g) vwCl [(aR, .inr (11, [.ref aG, .ref aP, .ref aH, .ref aY, .ref aT, .ref aS, .ref aF, .ref aX, .int (iI pr), .int (iI tk), .int (iI tol), .int (iI hou)])), (aG, .inr (4, [.ref aGn, .ref aGw, .ref aGs, .int (iI kn)])), (aGn, .inl (gI g, 200, .inl (ar nd))), (aGw, .inl (gI g, 200, .inl (ar wk))), (aP, .inr (6, [.ref aPx, .ref aPy, .int (iI pn)])), (aPx, .inl (gI g, 200, .inl (ar bx))), (aPy, .inl (gI g, 200, .inl (ar byy))), (aY, .inr (10, [.ref aYh, .ref aYt, .ref aYc])), (aYh, .inl (gI g, 3, .inl (ar ht))), (aYt, .inl (gI g, 36, .inl (ar yt))), (aYc, .inl (gI g, 36, .inl (ar yc))), (aT, .inr (9, [.ref aTp, .ref aTt, .ref aTx, .ref aTy, .ref aE, .int (iI ld)])), (aTp, .inl (gI g, 200, .inl (ar tp))), (aTt, .inl (gI g, 200, .inl (ar tt))), (aTx, .inl (gI g, 200, .inl (ar kx))), (aTy, .inl (gI g, 200, .inl (ar ky))), (aF, .inr (3, [.int (iI zfx), .int (iI zfy), .int (iI zfhx), .int (iI zfhy)])), (aN, .inl (gI g, 1960, .inl (ar F)))] H := hP
                        have hD : va_D A [(aR, .inr (11, [.ref aG, .ref aP, .ref aH, .ref aY, .ref aT, .ref aS, .ref aF, .ref aX, .int (iI pr), .int (iI tk), .int (iI tol), .int (iI hou)])), (aG, .inr (4, [.ref aGn, .ref aGw, .ref aGs, .int (iI kn)])), (aGn, .inl (gI g, 200, .inl (ar nd))), (aGw, .inl (gI g, 200, .inl (ar wk))), (aP, .inr (6, [.ref aPx, .ref aPy, .int (iI pn)])), (aPx, .inl (gI g, 200, .inl (ar bx))), (aPy, .inl (gI g, 200, .inl (ar byy))), (aY, .inr (10, [.ref aYh, .ref aYt, .ref aYc])), (aYh, .inl (gI g, 3, .inl (ar ht))), (aYt, .inl (gI g, 36, .inl (ar yt))), (aYc, .inl (gI g, 36, .inl (ar yc))), (aT, .inr (9, [.ref aTp, .ref aTt, .ref aTx, .ref aTy, .ref aE, .int (iI ld)])), (aTp, .inl (gI g, 200, .inl (ar tp))), (aTt, .inl (gI g, 200, .inl (ar tt))), (aTx, .inl (gI g, 200, .inl (ar kx))), (aTy, .inl (gI g, 200, .inl (ar ky))), (aF, .inr (3, [.int (iI zfx), .int (iI zfy), .int (iI zfhx), .int (iI zfhy)])), (aN, .inl (gI g, 1960, .inl (ar F)))] := hD
                        have hv_74 : v_74 = (if taT ht zs zj = 0 then yt (zs * 12 + zj) else -900000 - taT ht zs zj) := hv_74
                        refine lv_aload_n hx hb dL_areRings_223 rfl (lv_at hl 7 rfl) ?_
                        refine lv_iload hx hb dL_areRings_224 (lv_at hl 1 rfl) ?_
                        refine x_iald hx hb hK hP 17 0 rfl rfl (by omega) (by omega) (Nat.le_of_ble_eq_true rfl) dL_areRings_226 (fun v_75 hv_75 => ?_)
                        refine x_top (show v_75 = yt (zs * 12 + zj) by
                            first
                            | (
                               rw [hv_75, show v_69 = 1820 + 24 * zs + 2 * zj by omega]
                               exact (nst zs zj (by omega) (by omega) (by omega) (by omega)).1)
                            | fail "q9") ?_
                        refine x_cmp_eq (tgt := 232) hx hb (by omega) (by omega) dL_areRings_227 (by decide) (fun c_76 => ?_) (fun c_76 => ?_)
                        · skip
                          refine x_iinc (k := 2) (lv' := [(6, .int (iI (zj + 1))), (2, .int (iI v_73)), (7, .int (iI v_69)), (5, .int (iI v_40)), (4, .int (iI zs)), (3, .int (iI za)), (0, .ref aR), (1, .ref aN)]) hx hb dL_areRings_232 hl rfl (by decide) rfl (fun ls hl => ?_)
                          refine lv_goto (tgt := 169) hx hb dL_areRings_235 (by decide) ?_
                          exact ih169 (zj + 1) v_73 _ _ (by omega) (by omega) (show 0 ≤ (zj + 1) ∧ (zj + 1) ≤ ht zs by
                              first
                              | (
                                 first | assumption | omega | rfl)
                              | fail "q9") (show v_73 = zc + sumI (fun pl => bI (mx 0 (yc (zs * 12 + pl) + 24 - hou) = 0)) (zj + 1) by
                              first
                              | (
                                 rw [sumI_step _ (by omega)]
                                 show v_73 = zc + (sumI (fun pl => bI (mx 0 (yc (zs * 12 + pl) + 24 - hou) = 0)) zj + bI (mx 0 (yc (zs * 12 + zj) + 24 - hou) = 0))
                                 first | (rw [bI_t (by omega)]; omega) | (rw [bI_f (by omega)]; omega))
                              | fail "q9") (by
                              first
                              | (
                                 omega)
                              | fail "q9") _ _ hP hD hS ls (lv_sub hl [0, 3, 4, 5, 1, 6, 7] rfl)
                        · skip
                          exfalso
                          first
                          | (
                             omega)
                          | fail "q9"
                      · skip
                        refine x_iconst hx hb dL_areRings_208 ?_
                        refine lv_goto (tgt := 213) hx hb dL_areRings_209 (by decide) ?_
                        refine x_iadd hx hb dL_areRings_213 ?_
                        obtain ⟨v_77, ev_77⟩ : ∃ z : Int, z = zi + 1 := ⟨_, rfl⟩
                        refine x_top ev_77.symm ?_
                        refine lv_istore_n (lv' := [(2, .int (iI v_77)), (7, .int (iI v_69)), (6, .int (iI zj)), (5, .int (iI v_40)), (4, .int (iI zs)), (3, .int (iI za)), (0, .ref aR), (1, .ref aN)]) hx hb dL_areRings_214 rfl hl (by decide) rfl (fun ls hl => ?_)
                        refine lv_aload_n hx hb dL_areRings_215 rfl (lv_at hl 6 rfl) ?_
                        refine lv_iload hx hb dL_areRings_216 (lv_at hl 4 rfl) ?_
                        refine lv_iload hx hb dL_areRings_218 (lv_at hl 2 rfl) ?_
                        refine x_calli (S := Unit) (wc := [(aR, .inr (11, [.ref aG, .ref aP, .ref aH, .ref aY, .ref aT, .ref aS, .ref aF, .ref aX, .int (iI pr), .int (iI tk), .int (iI tol), .int (iI hou)])), (aY, .inr (10, [.ref aYh, .ref aYt, .ref aYc])), (aYh, .inl (gI g, 3, .inl (ar ht))), (aYt, .inl (gI g, 36, .inl (ar yt)))]) (wr := [(aG, .inr (4, [.ref aGn, .ref aGw, .ref aGs, .int (iI kn)])), (aGn, .inl (gI g, 200, .inl (ar nd))), (aGw, .inl (gI g, 200, .inl (ar wk))), (aP, .inr (6, [.ref aPx, .ref aPy, .int (iI pn)])), (aPx, .inl (gI g, 200, .inl (ar bx))), (aPy, .inl (gI g, 200, .inl (ar byy))), (aYc, .inl (gI g, 36, .inl (ar yc))), (aT, .inr (9, [.ref aTp, .ref aTt, .ref aTx, .ref aTy, .ref aE, .int (iI ld)])), (aTp, .inl (gI g, 200, .inl (ar tp))), (aTt, .inl (gI g, 200, .inl (ar tt))), (aTx, .inl (gI g, 200, .inl (ar kx))), (aTy, .inl (gI g, 200, .inl (ar ky))), (aF, .inr (3, [.int (iI zfx), .int (iI zfy), .int (iI zfhx), .int (iI zfhy)])), (aN, .inl (gI g, 1960, .inl (ar F)))]) hC hP hD hS hA [0, 7, 8, 9] [1, 2, 3, 4, 5, 6, 10, 11, 12, 13, 14, 15, 16, 17] [14, 0, 1, 2, 3, 4, 5, 15, 16, 17, 6, 7, 8, 9, 10, 11, 12, 13] rfl rfl (fun hpre => vx_runSW (As := [.ref aR, .int (iI zs), .int (iI zj)]) (rest := []) ⟨hx, hb, hml, hown, hts⟩ (c_L_taperAt l hflags g H.size aR aG aP aH aY aT aS aF aX aYh aYt aYc pr tk tol hou zs zj ht yt (by first | (first | assumption | omega | exact bnd_up (by assumption) (by omega) (by omega)) | fail "q8") (by first | (first | assumption | omega | exact bnd_up (by assumption) (by omega) (by omega)) | fail "q8") (by first | (first | assumption | omega | exact bnd_up (by assumption) (by omega) (by omega)) | fail "q8")) (vx_cwSW 3 hts gL_areRings_L_taperAt rfl rfl rfl (by decide +kernel) ⟨Nat.le_of_ble_eq_true rfl, Nat.le_of_ble_eq_true rfl⟩) ⟨xB_blind, hpre _⟩ rfl rfl hl.1 rfl (lv_room (Nat.le_of_ble_eq_true rfl)) dL_areRings_220 ⟨(show cz169 + 2 ≤ 2000 by omega), (show sz169 + 12 ≤ 14000 by omega)⟩) (fun (u : Unit) => [(aR, .inr (11, [.ref aG, .ref aP, .ref aH, .ref aY, .ref aT, .ref aS, .ref aF, .ref aX, .int (iI pr), .int (iI tk), .int (iI tol), .int (iI hou)])), (aG, .inr (4, [.ref aGn, .ref aGw, .ref aGs, .int (iI kn)])), (aGn, .inl (gI g, 200, .inl (ar nd))), (aGw, .inl (gI g, 200, .inl (ar wk))), (aP, .inr (6, [.ref aPx, .ref aPy, .int (iI pn)])), (aPx, .inl (gI g, 200, .inl (ar bx))), (aPy, .inl (gI g, 200, .inl (ar byy))), (aY, .inr (10, [.ref aYh, .ref aYt, .ref aYc])), (aYh, .inl (gI g, 3, .inl (ar ht))), (aYt, .inl (gI g, 36, .inl (ar yt))), (aYc, .inl (gI g, 36, .inl (ar yc))), (aT, .inr (9, [.ref aTp, .ref aTt, .ref aTx, .ref aTy, .ref aE, .int (iI ld)])), (aTp, .inl (gI g, 200, .inl (ar tp))), (aTt, .inl (gI g, 200, .inl (ar tt))), (aTx, .inl (gI g, 200, .inl (ar kx))), (aTy, .inl (gI g, 200, .inl (ar ky))), (aF, .inr (3, [.int (iI zfx), .int (iI zfy), .int (iI zfhx), .int (iI zfhy)])), (aN, .inl (gI g, 1960, .inl (ar F)))]) rfl rfl (by decide) (fun _ => rfl) rfl (fun u v_78 H locs hv_78 pv_78 hP hD hS => ?_)
                        have hP : va_P (gD g) vwCl [(aR, .inr (11, [.ref aG, .ref aP, .ref aH, .ref aY, .ref aT, .ref aS, .ref aF, .ref aX, .int (iI pr), .int (iI tk), .int (iI tol), .int (iI hou)])), (aG, .inr (4, [.ref aGn, .ref aGw, .ref aGs, .int (iI kn)])), (aGn, .inl (gI g, 200, .inl (ar nd))), (aGw, .inl (gI g, 200, .inl (ar wk))), (aP, .inr (6, [.ref aPx, .ref aPy, .int (iI pn)])), (aPx, .inl (gI g, 200, .inl (ar bx))), (aPy, .inl (gI g, 200, .inl (ar byy))), (aY, .inr (10, [.ref aYh, .ref aYt, .ref aYc])), (aYh, .inl (gI g, 3, .inl (ar ht))), (aYt, .inl (gI g, 36, .inl (ar yt))), (aYc, .inl (gI g, 36, .inl (ar yc))), (aT, .inr (9, [.ref aTp, .ref aTt, .ref aTx, .ref aTy, .ref aE, .int (iI ld)])), (aTp, .inl (gI g, 200, .inl (ar tp))), (aTt, .inl (gI g, 200, .inl (ar tt))), (aTx, .inl (gI g, 200, .inl (ar kx))), (aTy, .inl (gI g, 200, .inl (ar ky))), (aF, .inr (3, [.int (iI zfx), .int (iI zfy), .int (iI zfhx), .int (iI zfhy)])), (aN, .inl (gI g, 1960, .inl (ar F)))] H := hP
                        have hD : va_D A [(aR, .inr (11, [.ref aG, .ref aP, .ref aH, .ref aY, .ref aT, .ref aS, .ref aF, .ref aX, .int (iI pr), .int (iI tk), .int (iI tol), .int (iI hou)])), (aG, .inr (4, [.ref aGn, .ref aGw, .ref aGs, .int (iI kn)])), (aGn, .inl (gI g, 200, .inl (ar nd))), (aGw, .inl (gI g, 200, .inl (ar wk))), (aP, .inr (6, [.ref aPx, .ref aPy, .int (iI pn)])), (aPx, .inl (gI g, 200, .inl (ar bx))), (aPy, .inl (gI g, 200, .inl (ar byy))), (aY, .inr (10, [.ref aYh, .ref aYt, .ref aYc])), (aYh, .inl (gI g, 3, .inl (ar ht))), (aYt, .inl (gI g, 36, .inl (ar yt))), (aYc, .inl (gI g, 36, .inl (ar yc))), (aT, .inr (9, [.ref aTp, .ref aTt, .ref aTx, .ref aTy, .ref aE, .int (iI ld)])), (aTp, .inl (gI g, 200, .inl (ar tp))), (aTt, .inl (gI g, 200, .inl (ar tt))), (aTx, .inl (gI g, 200, .inl (ar kx))), (aTy, .inl (gI g, 200, .inl (ar ky))), (aF, .inr (3, [.int (iI zfx), .int (iI zfy), .int (iI zfhx), .int (iI zfhy)])), (aN, .inl (gI g, 1960, .inl (ar F)))] := hD
                        have hv_78 : v_78 = (if taT ht zs zj = 0 then yt (zs * 12 + zj) else -900000 - taT ht zs zj) := hv_78
                        refine lv_aload_n hx hb dL_areRings_223 rfl (lv_at hl 7 rfl) ?_
                        refine lv_iload hx hb dL_areRings_224 (lv_at hl 1 rfl) ?_
                        refine x_iald hx hb hK hP 17 0 rfl rfl (by omega) (by omega) (Nat.le_of_ble_eq_true rfl) dL_areRings_226 (fun v_79 hv_79 => ?_)
                        refine x_top (show v_79 = yt (zs * 12 + zj) by
                            first
                            | (
                               rw [hv_79, show v_69 = 1820 + 24 * zs + 2 * zj by omega]
                               exact (nst zs zj (by omega) (by omega) (by omega) (by omega)).1)
                            | fail "q9") ?_
                        refine x_cmp_eq (tgt := 232) hx hb (by omega) (by omega) dL_areRings_227 (by decide) (fun c_80 => ?_) (fun c_80 => ?_)
                        · skip
                          refine x_iinc (k := 2) (lv' := [(6, .int (iI (zj + 1))), (2, .int (iI v_77)), (7, .int (iI v_69)), (5, .int (iI v_40)), (4, .int (iI zs)), (3, .int (iI za)), (0, .ref aR), (1, .ref aN)]) hx hb dL_areRings_232 hl rfl (by decide) rfl (fun ls hl => ?_)
                          refine lv_goto (tgt := 169) hx hb dL_areRings_235 (by decide) ?_
                          exact ih169 (zj + 1) v_77 _ _ (by omega) (by omega) (show 0 ≤ (zj + 1) ∧ (zj + 1) ≤ ht zs by
                              first
                              | (
                                 first | assumption | omega | rfl)
                              | fail "q9") (show v_77 = zc + sumI (fun pl => bI (mx 0 (yc (zs * 12 + pl) + 24 - hou) = 0)) (zj + 1) by
                              first
                              | (
                                 rw [sumI_step _ (by omega)]
                                 show v_77 = zc + (sumI (fun pl => bI (mx 0 (yc (zs * 12 + pl) + 24 - hou) = 0)) zj + bI (mx 0 (yc (zs * 12 + zj) + 24 - hou) = 0))
                                 first | (rw [bI_t (by omega)]; omega) | (rw [bI_f (by omega)]; omega))
                              | fail "q9") (by
                              first
                              | (
                                 omega)
                              | fail "q9") _ _ hP hD hS ls (lv_sub hl [0, 3, 4, 5, 1, 6, 7] rfl)
                        · skip
                          exfalso
                          first
                          | (
                             omega)
                          | fail "q9"
                exact lp169 (ht zs + 1 - 0 : Int).toNat 0 zc _ _ (by omega) (by omega) (show 0 ≤ 0 ∧ 0 ≤ ht zs by
                    first
                    | (
                       first | assumption | omega | rfl)
                    | fail "q9") (show zc = zc + sumI (fun pl => bI (mx 0 (yc (zs * 12 + pl) + 24 - hou) = 0)) 0 by
                    first
                    | (
                       rw [sumI_0]
                       omega)
                    | fail "q9") (by omega) _ _ hP hD hS ls (lv_sub hl [0, 1, 2, 3, 4, 5, 6] rfl)
          exact lp151 (4 - 0 : Int).toNat 0 0 0 _ _ (by omega) (by omega) (show 0 ≤ 0 ∧ 0 ≤ 3 by
              first
              | (
                 first | assumption | omega | rfl)
              | fail "q9") (show 0 = sumI (cuF ht yc hou) 0 by
              first
              | (
                 rfl)
              | fail "q9") (show 0 = sumI ht 0 by
              first
              | (
                 rfl)
              | fail "q9") (by omega) _ _ hP hD hS ls (lv_sub hl [0, 1, 2, 3, 4] rfl)
        · skip
          have hT : rgT ld zk = 0 := by unfold rgT; omega
          have g1 : gt0 ld tp zk = tp zk := gt0_in (by omega)
          have g2 : gt0 ld tt zk = tt zk := gt0_in (by omega)
          have g3 : gt0 ld kx zk = kx zk := gt0_in (by omega)
          have g4 : gt0 ld ky zk = ky zk := gt0_in (by omega)
          have g5 := hkx zk (by omega) (by omega)
          have g6 := hky zk (by omega) (by omega)
          have g7 := hb_kx zk
          have g8 := hb_ky zk
          have g9 := hb_tp zk
          have g10 := hb_tt zk
          refine lv_aload_n hx hb dL_areRings_9 rfl (lv_at hl 1 rfl) ?_
          refine lv_iload_n hx hb dL_areRings_10 rfl (lv_at hl 0 rfl) ?_
          refine x_calli (S := Unit) (wc := [(aR, .inr (11, [.ref aG, .ref aP, .ref aH, .ref aY, .ref aT, .ref aS, .ref aF, .ref aX, .int (iI pr), .int (iI tk), .int (iI tol), .int (iI hou)])), (aT, .inr (9, [.ref aTp, .ref aTt, .ref aTx, .ref aTy, .ref aE, .int (iI ld)])), (aTp, .inl (gI g, 200, .inl (ar tp)))]) (wr := [(aG, .inr (4, [.ref aGn, .ref aGw, .ref aGs, .int (iI kn)])), (aGn, .inl (gI g, 200, .inl (ar nd))), (aGw, .inl (gI g, 200, .inl (ar wk))), (aP, .inr (6, [.ref aPx, .ref aPy, .int (iI pn)])), (aPx, .inl (gI g, 200, .inl (ar bx))), (aPy, .inl (gI g, 200, .inl (ar byy))), (aY, .inr (10, [.ref aYh, .ref aYt, .ref aYc])), (aYh, .inl (gI g, 3, .inl (ar ht))), (aYt, .inl (gI g, 36, .inl (ar yt))), (aYc, .inl (gI g, 36, .inl (ar yc))), (aTt, .inl (gI g, 200, .inl (ar tt))), (aTx, .inl (gI g, 200, .inl (ar kx))), (aTy, .inl (gI g, 200, .inl (ar ky))), (aF, .inr (3, [.int (iI zfx), .int (iI zfy), .int (iI zfhx), .int (iI zfhy)])), (aN, .inl (gI g, 1960, .inl (ar F)))]) hC hP hD hS hA [0, 11, 12] [1, 2, 3, 4, 5, 6, 7, 8, 9, 10, 13, 14, 15, 16, 17] [15, 0, 1, 2, 3, 4, 5, 6, 7, 8, 9, 16, 17, 10, 11, 12, 13, 14] rfl rfl (fun hpre => vx_runSW (As := [.ref aR, .int (iI zk)]) (rest := []) ⟨hx, hb, hml, hown, hts⟩ (c_L_positionOf l hflags g H.size aR aG aP aH aY aT aS aF aX aTp aTt aTx aTy aE pr tk tol hou ld zk tp (by first | (first | assumption | omega | exact bnd_up (by assumption) (by omega) (by omega)) | fail "q8") (by first | (first | assumption | omega | exact bnd_up (by assumption) (by omega) (by omega)) | fail "q8") (by first | (first | assumption | omega | exact bnd_up (by assumption) (by omega) (by omega)) | fail "q8")) (vx_cwSW 2 hts gL_areRings_L_positionOf rfl rfl rfl (by decide +kernel) ⟨Nat.le_of_ble_eq_true rfl, Nat.le_of_ble_eq_true rfl⟩) ⟨xB_blind, hpre _⟩ rfl rfl hl.1 rfl (lv_room (Nat.le_of_ble_eq_true rfl)) dL_areRings_11 ⟨(show cz2 + 1 ≤ 2000 by omega), (show sz2 + 6 ≤ 14000 by omega)⟩) (fun (u : Unit) => [(aR, .inr (11, [.ref aG, .ref aP, .ref aH, .ref aY, .ref aT, .ref aS, .ref aF, .ref aX, .int (iI pr), .int (iI tk), .int (iI tol), .int (iI hou)])), (aG, .inr (4, [.ref aGn, .ref aGw, .ref aGs, .int (iI kn)])), (aGn, .inl (gI g, 200, .inl (ar nd))), (aGw, .inl (gI g, 200, .inl (ar wk))), (aP, .inr (6, [.ref aPx, .ref aPy, .int (iI pn)])), (aPx, .inl (gI g, 200, .inl (ar bx))), (aPy, .inl (gI g, 200, .inl (ar byy))), (aY, .inr (10, [.ref aYh, .ref aYt, .ref aYc])), (aYh, .inl (gI g, 3, .inl (ar ht))), (aYt, .inl (gI g, 36, .inl (ar yt))), (aYc, .inl (gI g, 36, .inl (ar yc))), (aT, .inr (9, [.ref aTp, .ref aTt, .ref aTx, .ref aTy, .ref aE, .int (iI ld)])), (aTp, .inl (gI g, 200, .inl (ar tp))), (aTt, .inl (gI g, 200, .inl (ar tt))), (aTx, .inl (gI g, 200, .inl (ar kx))), (aTy, .inl (gI g, 200, .inl (ar ky))), (aF, .inr (3, [.int (iI zfx), .int (iI zfy), .int (iI zfhx), .int (iI zfhy)])), (aN, .inl (gI g, 1960, .inl (ar F)))]) rfl rfl (by decide) (fun _ => rfl) rfl (fun u v_81 H locs hv_81 pv_81 hP hD hS => ?_)
          have hP : va_P (gD g) vwCl [(aR, .inr (11, [.ref aG, .ref aP, .ref aH, .ref aY, .ref aT, .ref aS, .ref aF, .ref aX, .int (iI pr), .int (iI tk), .int (iI tol), .int (iI hou)])), (aG, .inr (4, [.ref aGn, .ref aGw, .ref aGs, .int (iI kn)])), (aGn, .inl (gI g, 200, .inl (ar nd))), (aGw, .inl (gI g, 200, .inl (ar wk))), (aP, .inr (6, [.ref aPx, .ref aPy, .int (iI pn)])), (aPx, .inl (gI g, 200, .inl (ar bx))), (aPy, .inl (gI g, 200, .inl (ar byy))), (aY, .inr (10, [.ref aYh, .ref aYt, .ref aYc])), (aYh, .inl (gI g, 3, .inl (ar ht))), (aYt, .inl (gI g, 36, .inl (ar yt))), (aYc, .inl (gI g, 36, .inl (ar yc))), (aT, .inr (9, [.ref aTp, .ref aTt, .ref aTx, .ref aTy, .ref aE, .int (iI ld)])), (aTp, .inl (gI g, 200, .inl (ar tp))), (aTt, .inl (gI g, 200, .inl (ar tt))), (aTx, .inl (gI g, 200, .inl (ar kx))), (aTy, .inl (gI g, 200, .inl (ar ky))), (aF, .inr (3, [.int (iI zfx), .int (iI zfy), .int (iI zfhx), .int (iI zfhy)])), (aN, .inl (gI g, 1960, .inl (ar F)))] H := hP
          have hD : va_D A [(aR, .inr (11, [.ref aG, .ref aP, .ref aH, .ref aY, .ref aT, .ref aS, .ref aF, .ref aX, .int (iI pr), .int (iI tk), .int (iI tol), .int (iI hou)])), (aG, .inr (4, [.ref aGn, .ref aGw, .ref aGs, .int (iI kn)])), (aGn, .inl (gI g, 200, .inl (ar nd))), (aGw, .inl (gI g, 200, .inl (ar wk))), (aP, .inr (6, [.ref aPx, .ref aPy, .int (iI pn)])), (aPx, .inl (gI g, 200, .inl (ar bx))), (aPy, .inl (gI g, 200, .inl (ar byy))), (aY, .inr (10, [.ref aYh, .ref aYt, .ref aYc])), (aYh, .inl (gI g, 3, .inl (ar ht))), (aYt, .inl (gI g, 36, .inl (ar yt))), (aYc, .inl (gI g, 36, .inl (ar yc))), (aT, .inr (9, [.ref aTp, .ref aTt, .ref aTx, .ref aTy, .ref aE, .int (iI ld)])), (aTp, .inl (gI g, 200, .inl (ar tp))), (aTt, .inl (gI g, 200, .inl (ar tt))), (aTx, .inl (gI g, 200, .inl (ar kx))), (aTy, .inl (gI g, 200, .inl (ar ky))), (aF, .inr (3, [.int (iI zfx), .int (iI zfy), .int (iI zfhx), .int (iI zfhy)])), (aN, .inl (gI g, 1960, .inl (ar F)))] := hD
          have hv_81 : v_81 = (if rgT ld zk = 0 then gt0 ld tp zk else -900000 - rgT ld zk) := hv_81
          refine lv_aload_n hx hb dL_areRings_14 rfl (lv_at hl 2 rfl) ?_
          refine x_sipush hx hb dL_areRings_15 (by decide) ?_
          refine lv_iload_n hx hb dL_areRings_18 rfl (lv_at hl 0 rfl) ?_
          refine x_iadd hx hb dL_areRings_19 ?_
          refine x_iald hx hb hK hP 17 0 rfl rfl (by omega) (by omega) (Nat.le_of_ble_eq_true rfl) dL_areRings_20 (fun v_82 hv_82 => ?_)
          refine x_top (show v_82 = tp zk by
              first
              | (
                 rw [hv_82]; exact n1020 zk (by omega) (by omega))
              | fail "q9") ?_
          refine x_cmp_ne (tgt := 73) hx hb (by omega) (by omega) dL_areRings_21 (by decide) (fun c_83 => ?_) (fun c_83 => ?_)
          · skip
            exfalso
            first
            | (
               omega)
            | fail "q9"
          · skip
            refine lv_aload_n hx hb dL_areRings_24 rfl (lv_at hl 1 rfl) ?_
            refine lv_iload_n hx hb dL_areRings_25 rfl (lv_at hl 0 rfl) ?_
            refine x_calli (S := Unit) (wc := [(aR, .inr (11, [.ref aG, .ref aP, .ref aH, .ref aY, .ref aT, .ref aS, .ref aF, .ref aX, .int (iI pr), .int (iI tk), .int (iI tol), .int (iI hou)])), (aT, .inr (9, [.ref aTp, .ref aTt, .ref aTx, .ref aTy, .ref aE, .int (iI ld)])), (aTt, .inl (gI g, 200, .inl (ar tt)))]) (wr := [(aG, .inr (4, [.ref aGn, .ref aGw, .ref aGs, .int (iI kn)])), (aGn, .inl (gI g, 200, .inl (ar nd))), (aGw, .inl (gI g, 200, .inl (ar wk))), (aP, .inr (6, [.ref aPx, .ref aPy, .int (iI pn)])), (aPx, .inl (gI g, 200, .inl (ar bx))), (aPy, .inl (gI g, 200, .inl (ar byy))), (aY, .inr (10, [.ref aYh, .ref aYt, .ref aYc])), (aYh, .inl (gI g, 3, .inl (ar ht))), (aYt, .inl (gI g, 36, .inl (ar yt))), (aYc, .inl (gI g, 36, .inl (ar yc))), (aTp, .inl (gI g, 200, .inl (ar tp))), (aTx, .inl (gI g, 200, .inl (ar kx))), (aTy, .inl (gI g, 200, .inl (ar ky))), (aF, .inr (3, [.int (iI zfx), .int (iI zfy), .int (iI zfhx), .int (iI zfhy)])), (aN, .inl (gI g, 1960, .inl (ar F)))]) hC hP hD hS hA [0, 11, 13] [1, 2, 3, 4, 5, 6, 7, 8, 9, 10, 12, 14, 15, 16, 17] [15, 0, 1, 2, 3, 4, 5, 6, 7, 8, 9, 16, 10, 17, 11, 12, 13, 14] rfl rfl (fun hpre => vx_runSW (As := [.ref aR, .int (iI zk)]) (rest := []) ⟨hx, hb, hml, hown, hts⟩ (c_L_taperOf l hflags g H.size aR aG aP aH aY aT aS aF aX aTp aTt aTx aTy aE pr tk tol hou ld zk tt (by first | (first | assumption | omega | exact bnd_up (by assumption) (by omega) (by omega)) | fail "q8") (by first | (first | assumption | omega | exact bnd_up (by assumption) (by omega) (by omega)) | fail "q8") (by first | (first | assumption | omega | exact bnd_up (by assumption) (by omega) (by omega)) | fail "q8")) (vx_cwSW 2 hts gL_areRings_L_taperOf rfl rfl rfl (by decide +kernel) ⟨Nat.le_of_ble_eq_true rfl, Nat.le_of_ble_eq_true rfl⟩) ⟨xB_blind, hpre _⟩ rfl rfl hl.1 rfl (lv_room (Nat.le_of_ble_eq_true rfl)) dL_areRings_26 ⟨(show cz2 + 2 ≤ 2000 by omega), (show sz2 + 12 ≤ 14000 by omega)⟩) (fun (u : Unit) => [(aR, .inr (11, [.ref aG, .ref aP, .ref aH, .ref aY, .ref aT, .ref aS, .ref aF, .ref aX, .int (iI pr), .int (iI tk), .int (iI tol), .int (iI hou)])), (aG, .inr (4, [.ref aGn, .ref aGw, .ref aGs, .int (iI kn)])), (aGn, .inl (gI g, 200, .inl (ar nd))), (aGw, .inl (gI g, 200, .inl (ar wk))), (aP, .inr (6, [.ref aPx, .ref aPy, .int (iI pn)])), (aPx, .inl (gI g, 200, .inl (ar bx))), (aPy, .inl (gI g, 200, .inl (ar byy))), (aY, .inr (10, [.ref aYh, .ref aYt, .ref aYc])), (aYh, .inl (gI g, 3, .inl (ar ht))), (aYt, .inl (gI g, 36, .inl (ar yt))), (aYc, .inl (gI g, 36, .inl (ar yc))), (aT, .inr (9, [.ref aTp, .ref aTt, .ref aTx, .ref aTy, .ref aE, .int (iI ld)])), (aTp, .inl (gI g, 200, .inl (ar tp))), (aTt, .inl (gI g, 200, .inl (ar tt))), (aTx, .inl (gI g, 200, .inl (ar kx))), (aTy, .inl (gI g, 200, .inl (ar ky))), (aF, .inr (3, [.int (iI zfx), .int (iI zfy), .int (iI zfhx), .int (iI zfhy)])), (aN, .inl (gI g, 1960, .inl (ar F)))]) rfl rfl (by decide) (fun _ => rfl) rfl (fun u v_84 H locs hv_84 pv_84 hP hD hS => ?_)
            have hP : va_P (gD g) vwCl [(aR, .inr (11, [.ref aG, .ref aP, .ref aH, .ref aY, .ref aT, .ref aS, .ref aF, .ref aX, .int (iI pr), .int (iI tk), .int (iI tol), .int (iI hou)])), (aG, .inr (4, [.ref aGn, .ref aGw, .ref aGs, .int (iI kn)])), (aGn, .inl (gI g, 200, .inl (ar nd))), (aGw, .inl (gI g, 200, .inl (ar wk))), (aP, .inr (6, [.ref aPx, .ref aPy, .int (iI pn)])), (aPx, .inl (gI g, 200, .inl (ar bx))), (aPy, .inl (gI g, 200, .inl (ar byy))), (aY, .inr (10, [.ref aYh, .ref aYt, .ref aYc])), (aYh, .inl (gI g, 3, .inl (ar ht))), (aYt, .inl (gI g, 36, .inl (ar yt))), (aYc, .inl (gI g, 36, .inl (ar yc))), (aT, .inr (9, [.ref aTp, .ref aTt, .ref aTx, .ref aTy, .ref aE, .int (iI ld)])), (aTp, .inl (gI g, 200, .inl (ar tp))), (aTt, .inl (gI g, 200, .inl (ar tt))), (aTx, .inl (gI g, 200, .inl (ar kx))), (aTy, .inl (gI g, 200, .inl (ar ky))), (aF, .inr (3, [.int (iI zfx), .int (iI zfy), .int (iI zfhx), .int (iI zfhy)])), (aN, .inl (gI g, 1960, .inl (ar F)))] H := hP
            have hD : va_D A [(aR, .inr (11, [.ref aG, .ref aP, .ref aH, .ref aY, .ref aT, .ref aS, .ref aF, .ref aX, .int (iI pr), .int (iI tk), .int (iI tol), .int (iI hou)])), (aG, .inr (4, [.ref aGn, .ref aGw, .ref aGs, .int (iI kn)])), (aGn, .inl (gI g, 200, .inl (ar nd))), (aGw, .inl (gI g, 200, .inl (ar wk))), (aP, .inr (6, [.ref aPx, .ref aPy, .int (iI pn)])), (aPx, .inl (gI g, 200, .inl (ar bx))), (aPy, .inl (gI g, 200, .inl (ar byy))), (aY, .inr (10, [.ref aYh, .ref aYt, .ref aYc])), (aYh, .inl (gI g, 3, .inl (ar ht))), (aYt, .inl (gI g, 36, .inl (ar yt))), (aYc, .inl (gI g, 36, .inl (ar yc))), (aT, .inr (9, [.ref aTp, .ref aTt, .ref aTx, .ref aTy, .ref aE, .int (iI ld)])), (aTp, .inl (gI g, 200, .inl (ar tp))), (aTt, .inl (gI g, 200, .inl (ar tt))), (aTx, .inl (gI g, 200, .inl (ar kx))), (aTy, .inl (gI g, 200, .inl (ar ky))), (aF, .inr (3, [.int (iI zfx), .int (iI zfy), .int (iI zfhx), .int (iI zfhy)])), (aN, .inl (gI g, 1960, .inl (ar F)))] := hD
            have hv_84 : v_84 = (if rgT ld zk = 0 then gt0 ld tt zk else -900000 - rgT ld zk) := hv_84
            refine lv_aload_n hx hb dL_areRings_29 rfl (lv_at hl 2 rfl) ?_
            refine x_sipush hx hb dL_areRings_30 (by decide) ?_
            refine lv_iload_n hx hb dL_areRings_33 rfl (lv_at hl 0 rfl) ?_
            refine x_iadd hx hb dL_areRings_34 ?_
            refine x_iald hx hb hK hP 17 0 rfl rfl (by omega) (by omega) (Nat.le_of_ble_eq_true rfl) dL_areRings_35 (fun v_85 hv_85 => ?_)
            refine x_top (show v_85 = tt zk by
                first
                | (
                   rw [hv_85]; exact n1220 zk (by omega) (by omega))
                | fail "q9") ?_
            refine x_cmp_ne (tgt := 73) hx hb (by omega) (by omega) dL_areRings_36 (by decide) (fun c_86 => ?_) (fun c_86 => ?_)
            · skip
              exfalso
              first
              | (
                 omega)
              | fail "q9"
            · skip
              refine lv_aload_n hx hb dL_areRings_39 rfl (lv_at hl 1 rfl) ?_
              refine lv_iload_n hx hb dL_areRings_40 rfl (lv_at hl 0 rfl) ?_
              refine x_calli (S := Unit) (wc := [(aR, .inr (11, [.ref aG, .ref aP, .ref aH, .ref aY, .ref aT, .ref aS, .ref aF, .ref aX, .int (iI pr), .int (iI tk), .int (iI tol), .int (iI hou)])), (aT, .inr (9, [.ref aTp, .ref aTt, .ref aTx, .ref aTy, .ref aE, .int (iI ld)])), (aTx, .inl (gI g, 200, .inl (ar kx)))]) (wr := [(aG, .inr (4, [.ref aGn, .ref aGw, .ref aGs, .int (iI kn)])), (aGn, .inl (gI g, 200, .inl (ar nd))), (aGw, .inl (gI g, 200, .inl (ar wk))), (aP, .inr (6, [.ref aPx, .ref aPy, .int (iI pn)])), (aPx, .inl (gI g, 200, .inl (ar bx))), (aPy, .inl (gI g, 200, .inl (ar byy))), (aY, .inr (10, [.ref aYh, .ref aYt, .ref aYc])), (aYh, .inl (gI g, 3, .inl (ar ht))), (aYt, .inl (gI g, 36, .inl (ar yt))), (aYc, .inl (gI g, 36, .inl (ar yc))), (aTp, .inl (gI g, 200, .inl (ar tp))), (aTt, .inl (gI g, 200, .inl (ar tt))), (aTy, .inl (gI g, 200, .inl (ar ky))), (aF, .inr (3, [.int (iI zfx), .int (iI zfy), .int (iI zfhx), .int (iI zfhy)])), (aN, .inl (gI g, 1960, .inl (ar F)))]) hC hP hD hS hA [0, 11, 14] [1, 2, 3, 4, 5, 6, 7, 8, 9, 10, 12, 13, 15, 16, 17] [15, 0, 1, 2, 3, 4, 5, 6, 7, 8, 9, 16, 10, 11, 17, 12, 13, 14] rfl rfl (fun hpre => vx_runSW (As := [.ref aR, .int (iI zk)]) (rest := []) ⟨hx, hb, hml, hown, hts⟩ (c_L_xAfter l hflags g H.size aR aG aP aH aY aT aS aF aX aTp aTt aTx aTy aE pr tk tol hou ld zk kx (by first | (first | assumption | omega | exact bnd_up (by assumption) (by omega) (by omega)) | fail "q8") (by first | (first | assumption | omega | exact bnd_up (by assumption) (by omega) (by omega)) | fail "q8") (by first | (first | assumption | omega | exact bnd_up (by assumption) (by omega) (by omega)) | fail "q8")) (vx_cwSW 2 hts gL_areRings_L_xAfter rfl rfl rfl (by decide +kernel) ⟨Nat.le_of_ble_eq_true rfl, Nat.le_of_ble_eq_true rfl⟩) ⟨xB_blind, hpre _⟩ rfl rfl hl.1 rfl (lv_room (Nat.le_of_ble_eq_true rfl)) dL_areRings_41 ⟨(show cz2 + 3 ≤ 2000 by omega), (show sz2 + 18 ≤ 14000 by omega)⟩) (fun (u : Unit) => [(aR, .inr (11, [.ref aG, .ref aP, .ref aH, .ref aY, .ref aT, .ref aS, .ref aF, .ref aX, .int (iI pr), .int (iI tk), .int (iI tol), .int (iI hou)])), (aG, .inr (4, [.ref aGn, .ref aGw, .ref aGs, .int (iI kn)])), (aGn, .inl (gI g, 200, .inl (ar nd))), (aGw, .inl (gI g, 200, .inl (ar wk))), (aP, .inr (6, [.ref aPx, .ref aPy, .int (iI pn)])), (aPx, .inl (gI g, 200, .inl (ar bx))), (aPy, .inl (gI g, 200, .inl (ar byy))), (aY, .inr (10, [.ref aYh, .ref aYt, .ref aYc])), (aYh, .inl (gI g, 3, .inl (ar ht))), (aYt, .inl (gI g, 36, .inl (ar yt))), (aYc, .inl (gI g, 36, .inl (ar yc))), (aT, .inr (9, [.ref aTp, .ref aTt, .ref aTx, .ref aTy, .ref aE, .int (iI ld)])), (aTp, .inl (gI g, 200, .inl (ar tp))), (aTt, .inl (gI g, 200, .inl (ar tt))), (aTx, .inl (gI g, 200, .inl (ar kx))), (aTy, .inl (gI g, 200, .inl (ar ky))), (aF, .inr (3, [.int (iI zfx), .int (iI zfy), .int (iI zfhx), .int (iI zfhy)])), (aN, .inl (gI g, 1960, .inl (ar F)))]) rfl rfl (by decide) (fun _ => rfl) rfl (fun u v_87 H locs hv_87 pv_87 hP hD hS => ?_)
              have hP : va_P (gD g) vwCl [(aR, .inr (11, [.ref aG, .ref aP, .ref aH, .ref aY, .ref aT, .ref aS, .ref aF, .ref aX, .int (iI pr), .int (iI tk), .int (iI tol), .int (iI hou)])), (aG, .inr (4, [.ref aGn, .ref aGw, .ref aGs, .int (iI kn)])), (aGn, .inl (gI g, 200, .inl (ar nd))), (aGw, .inl (gI g, 200, .inl (ar wk))), (aP, .inr (6, [.ref aPx, .ref aPy, .int (iI pn)])), (aPx, .inl (gI g, 200, .inl (ar bx))), (aPy, .inl (gI g, 200, .inl (ar byy))), (aY, .inr (10, [.ref aYh, .ref aYt, .ref aYc])), (aYh, .inl (gI g, 3, .inl (ar ht))), (aYt, .inl (gI g, 36, .inl (ar yt))), (aYc, .inl (gI g, 36, .inl (ar yc))), (aT, .inr (9, [.ref aTp, .ref aTt, .ref aTx, .ref aTy, .ref aE, .int (iI ld)])), (aTp, .inl (gI g, 200, .inl (ar tp))), (aTt, .inl (gI g, 200, .inl (ar tt))), (aTx, .inl (gI g, 200, .inl (ar kx))), (aTy, .inl (gI g, 200, .inl (ar ky))), (aF, .inr (3, [.int (iI zfx), .int (iI zfy), .int (iI zfhx), .int (iI zfhy)])), (aN, .inl (gI g, 1960, .inl (ar F)))] H := hP
              have hD : va_D A [(aR, .inr (11, [.ref aG, .ref aP, .ref aH, .ref aY, .ref aT, .ref aS, .ref aF, .ref aX, .int (iI pr), .int (iI tk), .int (iI tol), .int (iI hou)])), (aG, .inr (4, [.ref aGn, .ref aGw, .ref aGs, .int (iI kn)])), (aGn, .inl (gI g, 200, .inl (ar nd))), (aGw, .inl (gI g, 200, .inl (ar wk))), (aP, .inr (6, [.ref aPx, .ref aPy, .int (iI pn)])), (aPx, .inl (gI g, 200, .inl (ar bx))), (aPy, .inl (gI g, 200, .inl (ar byy))), (aY, .inr (10, [.ref aYh, .ref aYt, .ref aYc])), (aYh, .inl (gI g, 3, .inl (ar ht))), (aYt, .inl (gI g, 36, .inl (ar yt))), (aYc, .inl (gI g, 36, .inl (ar yc))), (aT, .inr (9, [.ref aTp, .ref aTt, .ref aTx, .ref aTy, .ref aE, .int (iI ld)])), (aTp, .inl (gI g, 200, .inl (ar tp))), (aTt, .inl (gI g, 200, .inl (ar tt))), (aTx, .inl (gI g, 200, .inl (ar kx))), (aTy, .inl (gI g, 200, .inl (ar ky))), (aF, .inr (3, [.int (iI zfx), .int (iI zfy), .int (iI zfhx), .int (iI zfhy)])), (aN, .inl (gI g, 1960, .inl (ar F)))] := hD
              have hv_87 : v_87 = (if rgT ld zk = 0 then gt0 ld kx zk else -900000 - rgT ld zk) := hv_87
              refine lv_aload_n hx hb dL_areRings_44 rfl (lv_at hl 2 rfl) ?_
              refine x_sipush hx hb dL_areRings_45 (by decide) ?_
              refine lv_iload_n hx hb dL_areRings_48 rfl (lv_at hl 0 rfl) ?_
              refine x_iadd hx hb dL_areRings_49 ?_
              refine x_iald hx hb hK hP 17 0 rfl rfl (by omega) (by omega) (Nat.le_of_ble_eq_true rfl) dL_areRings_50 (fun v_88 hv_88 => ?_)
              refine x_top (show v_88 = kx zk by
                  first
                  | (
                     rw [hv_88]; exact n1420 zk (by omega) (by omega))
                  | fail "q9") ?_
              refine x_cmp_ne (tgt := 73) hx hb (by omega) (by omega) dL_areRings_51 (by decide) (fun c_89 => ?_) (fun c_89 => ?_)
              · skip
                exfalso
                first
                | (
                   omega)
                | fail "q9"
              · skip
                refine lv_aload_n hx hb dL_areRings_54 rfl (lv_at hl 1 rfl) ?_
                refine lv_iload_n hx hb dL_areRings_55 rfl (lv_at hl 0 rfl) ?_
                refine x_calli (S := Unit) (wc := [(aR, .inr (11, [.ref aG, .ref aP, .ref aH, .ref aY, .ref aT, .ref aS, .ref aF, .ref aX, .int (iI pr), .int (iI tk), .int (iI tol), .int (iI hou)])), (aT, .inr (9, [.ref aTp, .ref aTt, .ref aTx, .ref aTy, .ref aE, .int (iI ld)])), (aTy, .inl (gI g, 200, .inl (ar ky)))]) (wr := [(aG, .inr (4, [.ref aGn, .ref aGw, .ref aGs, .int (iI kn)])), (aGn, .inl (gI g, 200, .inl (ar nd))), (aGw, .inl (gI g, 200, .inl (ar wk))), (aP, .inr (6, [.ref aPx, .ref aPy, .int (iI pn)])), (aPx, .inl (gI g, 200, .inl (ar bx))), (aPy, .inl (gI g, 200, .inl (ar byy))), (aY, .inr (10, [.ref aYh, .ref aYt, .ref aYc])), (aYh, .inl (gI g, 3, .inl (ar ht))), (aYt, .inl (gI g, 36, .inl (ar yt))), (aYc, .inl (gI g, 36, .inl (ar yc))), (aTp, .inl (gI g, 200, .inl (ar tp))), (aTt, .inl (gI g, 200, .inl (ar tt))), (aTx, .inl (gI g, 200, .inl (ar kx))), (aF, .inr (3, [.int (iI zfx), .int (iI zfy), .int (iI zfhx), .int (iI zfhy)])), (aN, .inl (gI g, 1960, .inl (ar F)))]) hC hP hD hS hA [0, 11, 15] [1, 2, 3, 4, 5, 6, 7, 8, 9, 10, 12, 13, 14, 16, 17] [15, 0, 1, 2, 3, 4, 5, 6, 7, 8, 9, 16, 10, 11, 12, 17, 13, 14] rfl rfl (fun hpre => vx_runSW (As := [.ref aR, .int (iI zk)]) (rest := []) ⟨hx, hb, hml, hown, hts⟩ (c_L_yAfter l hflags g H.size aR aG aP aH aY aT aS aF aX aTp aTt aTx aTy aE pr tk tol hou ld zk ky (by first | (first | assumption | omega | exact bnd_up (by assumption) (by omega) (by omega)) | fail "q8") (by first | (first | assumption | omega | exact bnd_up (by assumption) (by omega) (by omega)) | fail "q8") (by first | (first | assumption | omega | exact bnd_up (by assumption) (by omega) (by omega)) | fail "q8")) (vx_cwSW 2 hts gL_areRings_L_yAfter rfl rfl rfl (by decide +kernel) ⟨Nat.le_of_ble_eq_true rfl, Nat.le_of_ble_eq_true rfl⟩) ⟨xB_blind, hpre _⟩ rfl rfl hl.1 rfl (lv_room (Nat.le_of_ble_eq_true rfl)) dL_areRings_56 ⟨(show cz2 + 4 ≤ 2000 by omega), (show sz2 + 24 ≤ 14000 by omega)⟩) (fun (u : Unit) => [(aR, .inr (11, [.ref aG, .ref aP, .ref aH, .ref aY, .ref aT, .ref aS, .ref aF, .ref aX, .int (iI pr), .int (iI tk), .int (iI tol), .int (iI hou)])), (aG, .inr (4, [.ref aGn, .ref aGw, .ref aGs, .int (iI kn)])), (aGn, .inl (gI g, 200, .inl (ar nd))), (aGw, .inl (gI g, 200, .inl (ar wk))), (aP, .inr (6, [.ref aPx, .ref aPy, .int (iI pn)])), (aPx, .inl (gI g, 200, .inl (ar bx))), (aPy, .inl (gI g, 200, .inl (ar byy))), (aY, .inr (10, [.ref aYh, .ref aYt, .ref aYc])), (aYh, .inl (gI g, 3, .inl (ar ht))), (aYt, .inl (gI g, 36, .inl (ar yt))), (aYc, .inl (gI g, 36, .inl (ar yc))), (aT, .inr (9, [.ref aTp, .ref aTt, .ref aTx, .ref aTy, .ref aE, .int (iI ld)])), (aTp, .inl (gI g, 200, .inl (ar tp))), (aTt, .inl (gI g, 200, .inl (ar tt))), (aTx, .inl (gI g, 200, .inl (ar kx))), (aTy, .inl (gI g, 200, .inl (ar ky))), (aF, .inr (3, [.int (iI zfx), .int (iI zfy), .int (iI zfhx), .int (iI zfhy)])), (aN, .inl (gI g, 1960, .inl (ar F)))]) rfl rfl (by decide) (fun _ => rfl) rfl (fun u v_90 H locs hv_90 pv_90 hP hD hS => ?_)
                have hP : va_P (gD g) vwCl [(aR, .inr (11, [.ref aG, .ref aP, .ref aH, .ref aY, .ref aT, .ref aS, .ref aF, .ref aX, .int (iI pr), .int (iI tk), .int (iI tol), .int (iI hou)])), (aG, .inr (4, [.ref aGn, .ref aGw, .ref aGs, .int (iI kn)])), (aGn, .inl (gI g, 200, .inl (ar nd))), (aGw, .inl (gI g, 200, .inl (ar wk))), (aP, .inr (6, [.ref aPx, .ref aPy, .int (iI pn)])), (aPx, .inl (gI g, 200, .inl (ar bx))), (aPy, .inl (gI g, 200, .inl (ar byy))), (aY, .inr (10, [.ref aYh, .ref aYt, .ref aYc])), (aYh, .inl (gI g, 3, .inl (ar ht))), (aYt, .inl (gI g, 36, .inl (ar yt))), (aYc, .inl (gI g, 36, .inl (ar yc))), (aT, .inr (9, [.ref aTp, .ref aTt, .ref aTx, .ref aTy, .ref aE, .int (iI ld)])), (aTp, .inl (gI g, 200, .inl (ar tp))), (aTt, .inl (gI g, 200, .inl (ar tt))), (aTx, .inl (gI g, 200, .inl (ar kx))), (aTy, .inl (gI g, 200, .inl (ar ky))), (aF, .inr (3, [.int (iI zfx), .int (iI zfy), .int (iI zfhx), .int (iI zfhy)])), (aN, .inl (gI g, 1960, .inl (ar F)))] H := hP
                have hD : va_D A [(aR, .inr (11, [.ref aG, .ref aP, .ref aH, .ref aY, .ref aT, .ref aS, .ref aF, .ref aX, .int (iI pr), .int (iI tk), .int (iI tol), .int (iI hou)])), (aG, .inr (4, [.ref aGn, .ref aGw, .ref aGs, .int (iI kn)])), (aGn, .inl (gI g, 200, .inl (ar nd))), (aGw, .inl (gI g, 200, .inl (ar wk))), (aP, .inr (6, [.ref aPx, .ref aPy, .int (iI pn)])), (aPx, .inl (gI g, 200, .inl (ar bx))), (aPy, .inl (gI g, 200, .inl (ar byy))), (aY, .inr (10, [.ref aYh, .ref aYt, .ref aYc])), (aYh, .inl (gI g, 3, .inl (ar ht))), (aYt, .inl (gI g, 36, .inl (ar yt))), (aYc, .inl (gI g, 36, .inl (ar yc))), (aT, .inr (9, [.ref aTp, .ref aTt, .ref aTx, .ref aTy, .ref aE, .int (iI ld)])), (aTp, .inl (gI g, 200, .inl (ar tp))), (aTt, .inl (gI g, 200, .inl (ar tt))), (aTx, .inl (gI g, 200, .inl (ar kx))), (aTy, .inl (gI g, 200, .inl (ar ky))), (aF, .inr (3, [.int (iI zfx), .int (iI zfy), .int (iI zfhx), .int (iI zfhy)])), (aN, .inl (gI g, 1960, .inl (ar F)))] := hD
                have hv_90 : v_90 = (if rgT ld zk = 0 then gt0 ld ky zk else -900000 - rgT ld zk) := hv_90
                refine lv_aload_n hx hb dL_areRings_59 rfl (lv_at hl 2 rfl) ?_
                refine x_sipush hx hb dL_areRings_60 (by decide) ?_
                refine lv_iload_n hx hb dL_areRings_63 rfl (lv_at hl 0 rfl) ?_
                refine x_iadd hx hb dL_areRings_64 ?_
                refine x_iald hx hb hK hP 17 0 rfl rfl (by omega) (by omega) (Nat.le_of_ble_eq_true rfl) dL_areRings_65 (fun v_91 hv_91 => ?_)
                refine x_top (show v_91 = ky zk by
                    first
                    | (
                       rw [hv_91]; exact n1620 zk (by omega) (by omega))
                    | fail "q9") ?_
                refine x_cmp_ne (tgt := 73) hx hb (by omega) (by omega) dL_areRings_66 (by decide) (fun c_92 => ?_) (fun c_92 => ?_)
                · skip
                  exfalso
                  first
                  | (
                     omega)
                  | fail "q9"
                · skip
                  refine x_iconst hx hb dL_areRings_69 ?_
                  refine lv_goto (tgt := 74) hx hb dL_areRings_70 (by decide) ?_
                  refine lv_istore_n (lv' := [(3, .int (iI 1)), (2, .int (iI zk)), (0, .ref aR), (1, .ref aN)]) hx hb dL_areRings_74 rfl hl (by decide) rfl (fun ls hl => ?_)
                  refine lv_iload_n hx hb dL_areRings_75 rfl (lv_at hl 0 rfl) ?_
                  refine x_if_eq (tgt := 136) hx hb (by omega) dL_areRings_76 (by decide) (fun c_93 => ?_) (fun c_93 => ?_)
                  · skip
                    exact absurd c_93 (by decide)
                  · skip
                    refine lv_aload_n hx hb dL_areRings_79 rfl (lv_at hl 2 rfl) ?_
                    refine lv_iload_n hx hb dL_areRings_80 rfl (lv_at hl 1 rfl) ?_
                    refine x_calli (S := Int × Int × Int × Int) (wc := [(aR, .inr (11, [.ref aG, .ref aP, .ref aH, .ref aY, .ref aT, .ref aS, .ref aF, .ref aX, .int (iI pr), .int (iI tk), .int (iI tol), .int (iI hou)])), (aT, .inr (9, [.ref aTp, .ref aTt, .ref aTx, .ref aTy, .ref aE, .int (iI ld)])), (aTp, .inl (gI g, 200, .inl (ar tp))), (aTt, .inl (gI g, 200, .inl (ar tt))), (aF, .inr (3, [.int (iI zfx), .int (iI zfy), .int (iI zfhx), .int (iI zfhy)]))]) (wr := [(aG, .inr (4, [.ref aGn, .ref aGw, .ref aGs, .int (iI kn)])), (aGn, .inl (gI g, 200, .inl (ar nd))), (aGw, .inl (gI g, 200, .inl (ar wk))), (aP, .inr (6, [.ref aPx, .ref aPy, .int (iI pn)])), (aPx, .inl (gI g, 200, .inl (ar bx))), (aPy, .inl (gI g, 200, .inl (ar byy))), (aY, .inr (10, [.ref aYh, .ref aYt, .ref aYc])), (aYh, .inl (gI g, 3, .inl (ar ht))), (aYt, .inl (gI g, 36, .inl (ar yt))), (aYc, .inl (gI g, 36, .inl (ar yc))), (aTx, .inl (gI g, 200, .inl (ar kx))), (aTy, .inl (gI g, 200, .inl (ar ky))), (aN, .inl (gI g, 1960, .inl (ar F)))]) hC hP hD hS hA [0, 11, 12, 13, 16] [1, 2, 3, 4, 5, 6, 7, 8, 9, 10, 14, 15, 17] [13, 0, 1, 2, 3, 4, 5, 6, 7, 8, 9, 14, 15, 16, 10, 11, 17, 12] rfl rfl (fun hpre => vx_runSW (As := [.ref aR, .int (iI zk)]) (rest := []) ⟨hx, hb, hml, hown, hts⟩ (c_L_xAnew l hflags g H.size aR aG aP aH aY aT aS aF aX aTp aTt aTx aTy aE pr tk tol hou ld zfx zfy zfhx zfhy zk tp tt (by first | (first | assumption | omega | exact bnd_up (by assumption) (by omega) (by omega)) | fail "q8") (by first | (first | assumption | omega | exact bnd_up (by assumption) (by omega) (by omega)) | fail "q8") (by first | (first | assumption | omega | exact bnd_up (by assumption) (by omega) (by omega)) | fail "q8") (by first | (first | assumption | omega | exact bnd_up (by assumption) (by omega) (by omega)) | fail "q8")) (vx_cwSW 2 hts gL_areRings_L_xAnew rfl rfl rfl (by decide +kernel) ⟨Nat.le_of_ble_eq_true rfl, Nat.le_of_ble_eq_true rfl⟩) ⟨xB_blind, hpre _⟩ rfl rfl hl.1 rfl (lv_room (Nat.le_of_ble_eq_true rfl)) dL_areRings_81 ⟨(show cz2 + 5 ≤ 2000 by omega), (show sz2 + 30 ≤ 14000 by omega)⟩) (fun (u : Int × Int × Int × Int) => [(aR, .inr (11, [.ref aG, .ref aP, .ref aH, .ref aY, .ref aT, .ref aS, .ref aF, .ref aX, .int (iI pr), .int (iI tk), .int (iI tol), .int (iI hou)])), (aG, .inr (4, [.ref aGn, .ref aGw, .ref aGs, .int (iI kn)])), (aGn, .inl (gI g, 200, .inl (ar nd))), (aGw, .inl (gI g, 200, .inl (ar wk))), (aP, .inr (6, [.ref aPx, .ref aPy, .int (iI pn)])), (aPx, .inl (gI g, 200, .inl (ar bx))), (aPy, .inl (gI g, 200, .inl (ar byy))), (aY, .inr (10, [.ref aYh, .ref aYt, .ref aYc])), (aYh, .inl (gI g, 3, .inl (ar ht))), (aYt, .inl (gI g, 36, .inl (ar yt))), (aYc, .inl (gI g, 36, .inl (ar yc))), (aT, .inr (9, [.ref aTp, .ref aTt, .ref aTx, .ref aTy, .ref aE, .int (iI ld)])), (aTp, .inl (gI g, 200, .inl (ar tp))), (aTt, .inl (gI g, 200, .inl (ar tt))), (aTx, .inl (gI g, 200, .inl (ar kx))), (aTy, .inl (gI g, 200, .inl (ar ky))), (aF, .inr (3, [.int (iI u.1), .int (iI u.2.1), .int (iI u.2.2.1), .int (iI u.2.2.2)])), (aN, .inl (gI g, 1960, .inl (ar F)))]) rfl rfl (by decide) (fun _ => rfl) rfl (fun u v_98 H locs hv_98 pv_98 hP hD hS => ?_)
                    obtain ⟨fx_o_94, fy_o_95, fhx_o_96, fhy_o_97⟩ := u
                    have hP : va_P (gD g) vwCl [(aR, .inr (11, [.ref aG, .ref aP, .ref aH, .ref aY, .ref aT, .ref aS, .ref aF, .ref aX, .int (iI pr), .int (iI tk), .int (iI tol), .int (iI hou)])), (aG, .inr (4, [.ref aGn, .ref aGw, .ref aGs, .int (iI kn)])), (aGn, .inl (gI g, 200, .inl (ar nd))), (aGw, .inl (gI g, 200, .inl (ar wk))), (aP, .inr (6, [.ref aPx, .ref aPy, .int (iI pn)])), (aPx, .inl (gI g, 200, .inl (ar bx))), (aPy, .inl (gI g, 200, .inl (ar byy))), (aY, .inr (10, [.ref aYh, .ref aYt, .ref aYc])), (aYh, .inl (gI g, 3, .inl (ar ht))), (aYt, .inl (gI g, 36, .inl (ar yt))), (aYc, .inl (gI g, 36, .inl (ar yc))), (aT, .inr (9, [.ref aTp, .ref aTt, .ref aTx, .ref aTy, .ref aE, .int (iI ld)])), (aTp, .inl (gI g, 200, .inl (ar tp))), (aTt, .inl (gI g, 200, .inl (ar tt))), (aTx, .inl (gI g, 200, .inl (ar kx))), (aTy, .inl (gI g, 200, .inl (ar ky))), (aF, .inr (3, [.int (iI fx_o_94), .int (iI fy_o_95), .int (iI fhx_o_96), .int (iI fhy_o_97)])), (aN, .inl (gI g, 1960, .inl (ar F)))] H := hP
                    have hD : va_D A [(aR, .inr (11, [.ref aG, .ref aP, .ref aH, .ref aY, .ref aT, .ref aS, .ref aF, .ref aX, .int (iI pr), .int (iI tk), .int (iI tol), .int (iI hou)])), (aG, .inr (4, [.ref aGn, .ref aGw, .ref aGs, .int (iI kn)])), (aGn, .inl (gI g, 200, .inl (ar nd))), (aGw, .inl (gI g, 200, .inl (ar wk))), (aP, .inr (6, [.ref aPx, .ref aPy, .int (iI pn)])), (aPx, .inl (gI g, 200, .inl (ar bx))), (aPy, .inl (gI g, 200, .inl (ar byy))), (aY, .inr (10, [.ref aYh, .ref aYt, .ref aYc])), (aYh, .inl (gI g, 3, .inl (ar ht))), (aYt, .inl (gI g, 36, .inl (ar yt))), (aYc, .inl (gI g, 36, .inl (ar yc))), (aT, .inr (9, [.ref aTp, .ref aTt, .ref aTx, .ref aTy, .ref aE, .int (iI ld)])), (aTp, .inl (gI g, 200, .inl (ar tp))), (aTt, .inl (gI g, 200, .inl (ar tt))), (aTx, .inl (gI g, 200, .inl (ar kx))), (aTy, .inl (gI g, 200, .inl (ar ky))), (aF, .inr (3, [.int (iI fx_o_94), .int (iI fy_o_95), .int (iI fhx_o_96), .int (iI fhy_o_97)])), (aN, .inl (gI g, 1960, .inl (ar F)))] := hD
                    have hv_98 : v_98 = (if rgT ld zk = 0 then lnO tt tp toSide (zk + 1) else -900000 - rgT ld zk) := hv_98
                    refine lv_aload_n hx hb dL_areRings_84 rfl (lv_at hl 3 rfl) ?_
                    refine x_sipush hx hb dL_areRings_85 (by decide) ?_
                    refine lv_iload_n hx hb dL_areRings_88 rfl (lv_at hl 1 rfl) ?_
                    refine x_iadd hx hb dL_areRings_89 ?_
                    refine x_iald hx hb hK hP 17 0 rfl rfl (by omega) (by omega) (Nat.le_of_ble_eq_true rfl) dL_areRings_90 (fun v_99 hv_99 => ?_)
                    refine x_top (show v_99 = kx zk by
                        first
                        | (
                           rw [hv_99]; exact n1420 zk (by omega) (by omega))
                        | fail "q9") ?_
                    refine x_cmp_ne (tgt := 136) hx hb (by omega) (by omega) dL_areRings_91 (by decide) (fun c_100 => ?_) (fun c_100 => ?_)
                    · skip
                      exfalso
                      first
                      | (
                         omega)
                      | fail "q9"
                    · skip
                      refine lv_aload_n hx hb dL_areRings_94 rfl (lv_at hl 2 rfl) ?_
                      refine lv_iload_n hx hb dL_areRings_95 rfl (lv_at hl 1 rfl) ?_
                      refine x_calli (S := Int × Int × Int × Int) (wc := [(aR, .inr (11, [.ref aG, .ref aP, .ref aH, .ref aY, .ref aT, .ref aS, .ref aF, .ref aX, .int (iI pr), .int (iI tk), .int (iI tol), .int (iI hou)])), (aT, .inr (9, [.ref aTp, .ref aTt, .ref aTx, .ref aTy, .ref aE, .int (iI ld)])), (aTp, .inl (gI g, 200, .inl (ar tp))), (aTt, .inl (gI g, 200, .inl (ar tt))), (aF, .inr (3, [.int (iI fx_o_94), .int (iI fy_o_95), .int (iI fhx_o_96), .int (iI fhy_o_97)]))]) (wr := [(aG, .inr (4, [.ref aGn, .ref aGw, .ref aGs, .int (iI kn)])), (aGn, .inl (gI g, 200, .inl (ar nd))), (aGw, .inl (gI g, 200, .inl (ar wk))), (aP, .inr (6, [.ref aPx, .ref aPy, .int (iI pn)])), (aPx, .inl (gI g, 200, .inl (ar bx))), (aPy, .inl (gI g, 200, .inl (ar byy))), (aY, .inr (10, [.ref aYh, .ref aYt, .ref aYc])), (aYh, .inl (gI g, 3, .inl (ar ht))), (aYt, .inl (gI g, 36, .inl (ar yt))), (aYc, .inl (gI g, 36, .inl (ar yc))), (aTx, .inl (gI g, 200, .inl (ar kx))), (aTy, .inl (gI g, 200, .inl (ar ky))), (aN, .inl (gI g, 1960, .inl (ar F)))]) hC hP hD hS hA [0, 11, 12, 13, 16] [1, 2, 3, 4, 5, 6, 7, 8, 9, 10, 14, 15, 17] [13, 0, 1, 2, 3, 4, 5, 6, 7, 8, 9, 14, 15, 16, 10, 11, 17, 12] rfl rfl (fun hpre => vx_runSW (As := [.ref aR, .int (iI zk)]) (rest := []) ⟨hx, hb, hml, hown, hts⟩ (c_L_yAnew l hflags g H.size aR aG aP aH aY aT aS aF aX aTp aTt aTx aTy aE pr tk tol hou ld fx_o_94 fy_o_95 fhx_o_96 fhy_o_97 zk tp tt (by first | (first | assumption | omega | exact bnd_up (by assumption) (by omega) (by omega)) | fail "q8") (by first | (first | assumption | omega | exact bnd_up (by assumption) (by omega) (by omega)) | fail "q8") (by first | (first | assumption | omega | exact bnd_up (by assumption) (by omega) (by omega)) | fail "q8") (by first | (first | assumption | omega | exact bnd_up (by assumption) (by omega) (by omega)) | fail "q8")) (vx_cwSW 2 hts gL_areRings_L_yAnew rfl rfl rfl (by decide +kernel) ⟨Nat.le_of_ble_eq_true rfl, Nat.le_of_ble_eq_true rfl⟩) ⟨xB_blind, hpre _⟩ rfl rfl hl.1 rfl (lv_room (Nat.le_of_ble_eq_true rfl)) dL_areRings_96 ⟨(show cz2 + 6 ≤ 2000 by omega), (show sz2 + 36 ≤ 14000 by omega)⟩) (fun (u : Int × Int × Int × Int) => [(aR, .inr (11, [.ref aG, .ref aP, .ref aH, .ref aY, .ref aT, .ref aS, .ref aF, .ref aX, .int (iI pr), .int (iI tk), .int (iI tol), .int (iI hou)])), (aG, .inr (4, [.ref aGn, .ref aGw, .ref aGs, .int (iI kn)])), (aGn, .inl (gI g, 200, .inl (ar nd))), (aGw, .inl (gI g, 200, .inl (ar wk))), (aP, .inr (6, [.ref aPx, .ref aPy, .int (iI pn)])), (aPx, .inl (gI g, 200, .inl (ar bx))), (aPy, .inl (gI g, 200, .inl (ar byy))), (aY, .inr (10, [.ref aYh, .ref aYt, .ref aYc])), (aYh, .inl (gI g, 3, .inl (ar ht))), (aYt, .inl (gI g, 36, .inl (ar yt))), (aYc, .inl (gI g, 36, .inl (ar yc))), (aT, .inr (9, [.ref aTp, .ref aTt, .ref aTx, .ref aTy, .ref aE, .int (iI ld)])), (aTp, .inl (gI g, 200, .inl (ar tp))), (aTt, .inl (gI g, 200, .inl (ar tt))), (aTx, .inl (gI g, 200, .inl (ar kx))), (aTy, .inl (gI g, 200, .inl (ar ky))), (aF, .inr (3, [.int (iI u.1), .int (iI u.2.1), .int (iI u.2.2.1), .int (iI u.2.2.2)])), (aN, .inl (gI g, 1960, .inl (ar F)))]) rfl rfl (by decide) (fun _ => rfl) rfl (fun u v_105 H locs hv_105 pv_105 hP hD hS => ?_)
                      obtain ⟨fx_o_101, fy_o_102, fhx_o_103, fhy_o_104⟩ := u
                      have hP : va_P (gD g) vwCl [(aR, .inr (11, [.ref aG, .ref aP, .ref aH, .ref aY, .ref aT, .ref aS, .ref aF, .ref aX, .int (iI pr), .int (iI tk), .int (iI tol), .int (iI hou)])), (aG, .inr (4, [.ref aGn, .ref aGw, .ref aGs, .int (iI kn)])), (aGn, .inl (gI g, 200, .inl (ar nd))), (aGw, .inl (gI g, 200, .inl (ar wk))), (aP, .inr (6, [.ref aPx, .ref aPy, .int (iI pn)])), (aPx, .inl (gI g, 200, .inl (ar bx))), (aPy, .inl (gI g, 200, .inl (ar byy))), (aY, .inr (10, [.ref aYh, .ref aYt, .ref aYc])), (aYh, .inl (gI g, 3, .inl (ar ht))), (aYt, .inl (gI g, 36, .inl (ar yt))), (aYc, .inl (gI g, 36, .inl (ar yc))), (aT, .inr (9, [.ref aTp, .ref aTt, .ref aTx, .ref aTy, .ref aE, .int (iI ld)])), (aTp, .inl (gI g, 200, .inl (ar tp))), (aTt, .inl (gI g, 200, .inl (ar tt))), (aTx, .inl (gI g, 200, .inl (ar kx))), (aTy, .inl (gI g, 200, .inl (ar ky))), (aF, .inr (3, [.int (iI fx_o_101), .int (iI fy_o_102), .int (iI fhx_o_103), .int (iI fhy_o_104)])), (aN, .inl (gI g, 1960, .inl (ar F)))] H := hP
                      have hD : va_D A [(aR, .inr (11, [.ref aG, .ref aP, .ref aH, .ref aY, .ref aT, .ref aS, .ref aF, .ref aX, .int (iI pr), .int (iI tk), .int (iI tol), .int (iI hou)])), (aG, .inr (4, [.ref aGn, .ref aGw, .ref aGs, .int (iI kn)])), (aGn, .inl (gI g, 200, .inl (ar nd))), (aGw, .inl (gI g, 200, .inl (ar wk))), (aP, .inr (6, [.ref aPx, .ref aPy, .int (iI pn)])), (aPx, .inl (gI g, 200, .inl (ar bx))), (aPy, .inl (gI g, 200, .inl (ar byy))), (aY, .inr (10, [.ref aYh, .ref aYt, .ref aYc])), (aYh, .inl (gI g, 3, .inl (ar ht))), (aYt, .inl (gI g, 36, .inl (ar yt))), (aYc, .inl (gI g, 36, .inl (ar yc))), (aT, .inr (9, [.ref aTp, .ref aTt, .ref aTx, .ref aTy, .ref aE, .int (iI ld)])), (aTp, .inl (gI g, 200, .inl (ar tp))), (aTt, .inl (gI g, 200, .inl (ar tt))), (aTx, .inl (gI g, 200, .inl (ar kx))), (aTy, .inl (gI g, 200, .inl (ar ky))), (aF, .inr (3, [.int (iI fx_o_101), .int (iI fy_o_102), .int (iI fhx_o_103), .int (iI fhy_o_104)])), (aN, .inl (gI g, 1960, .inl (ar F)))] := hD
                      have hv_105 : v_105 = (if rgT ld zk = 0 then lnO tt tp upward (zk + 1) else -900000 - rgT ld zk) := hv_105
                      refine lv_aload_n hx hb dL_areRings_99 rfl (lv_at hl 3 rfl) ?_
                      refine x_sipush hx hb dL_areRings_100 (by decide) ?_
                      refine lv_iload_n hx hb dL_areRings_103 rfl (lv_at hl 1 rfl) ?_
                      refine x_iadd hx hb dL_areRings_104 ?_
                      refine x_iald hx hb hK hP 17 0 rfl rfl (by omega) (by omega) (Nat.le_of_ble_eq_true rfl) dL_areRings_105 (fun v_106 hv_106 => ?_)
                      refine x_top (show v_106 = ky zk by
                          first
                          | (
                             rw [hv_106]; exact n1620 zk (by omega) (by omega))
                          | fail "q9") ?_
                      refine x_cmp_ne (tgt := 136) hx hb (by omega) (by omega) dL_areRings_106 (by decide) (fun c_107 => ?_) (fun c_107 => ?_)
                      · skip
                        exfalso
                        first
                        | (
                           omega)
                        | fail "q9"
                      · skip
                        refine lv_aload_n hx hb dL_areRings_109 rfl (lv_at hl 2 rfl) ?_
                        refine lv_iload_n hx hb dL_areRings_110 rfl (lv_at hl 1 rfl) ?_
                        refine x_calli (S := Int × Int × Int × Int) (wc := [(aR, .inr (11, [.ref aG, .ref aP, .ref aH, .ref aY, .ref aT, .ref aS, .ref aF, .ref aX, .int (iI pr), .int (iI tk), .int (iI tol), .int (iI hou)])), (aT, .inr (9, [.ref aTp, .ref aTt, .ref aTx, .ref aTy, .ref aE, .int (iI ld)])), (aTx, .inl (gI g, 200, .inl (ar kx))), (aTy, .inl (gI g, 200, .inl (ar ky))), (aP, .inr (6, [.ref aPx, .ref aPy, .int (iI pn)])), (aPx, .inl (gI g, 200, .inl (ar bx))), (aPy, .inl (gI g, 200, .inl (ar byy))), (aF, .inr (3, [.int (iI fx_o_101), .int (iI fy_o_102), .int (iI fhx_o_103), .int (iI fhy_o_104)]))]) (wr := [(aG, .inr (4, [.ref aGn, .ref aGw, .ref aGs, .int (iI kn)])), (aGn, .inl (gI g, 200, .inl (ar nd))), (aGw, .inl (gI g, 200, .inl (ar wk))), (aY, .inr (10, [.ref aYh, .ref aYt, .ref aYc])), (aYh, .inl (gI g, 3, .inl (ar ht))), (aYt, .inl (gI g, 36, .inl (ar yt))), (aYc, .inl (gI g, 36, .inl (ar yc))), (aTp, .inl (gI g, 200, .inl (ar tp))), (aTt, .inl (gI g, 200, .inl (ar tt))), (aN, .inl (gI g, 1960, .inl (ar F)))]) hC hP hD hS hA [0, 11, 14, 15, 4, 5, 6, 16] [1, 2, 3, 7, 8, 9, 10, 12, 13, 17] [10, 0, 1, 2, 14, 15, 16, 3, 4, 5, 6, 11, 7, 8, 12, 13, 17, 9] rfl rfl (fun hpre => vx_runSW (As := [.ref aR, .int (iI zk)]) (rest := []) ⟨hx, hb, hml, hown, hts⟩ (c_L_deviationAfter l hflags g H.size aR aG aP aH aY aT aS aF aX aTp aTt aTx aTy aE aPx aPy pr tk tol hou ld pn fx_o_101 fy_o_102 fhx_o_103 fhy_o_104 zk kx ky bx byy (by first | (first | assumption | omega | exact bnd_up (by assumption) (by omega) (by omega)) | fail "q8") (by first | (first | assumption | omega | exact bnd_up (by assumption) (by omega) (by omega)) | fail "q8") (by first | (first | assumption | omega | exact bnd_up (by assumption) (by omega) (by omega)) | fail "q8") (by first | (first | assumption | omega | exact bnd_up (by assumption) (by omega) (by omega)) | fail "q8") (by first | (first | assumption | omega | exact bnd_up (by assumption) (by omega) (by omega)) | fail "q8") (by first | (first | assumption | omega | exact bnd_up (by assumption) (by omega) (by omega)) | fail "q8") (by first | (first | assumption | omega | exact bnd_up (by assumption) (by omega) (by omega)) | fail "q8")) (vx_cwSW 2 hts gL_areRings_L_deviationAfter rfl rfl rfl (by decide +kernel) ⟨Nat.le_of_ble_eq_true rfl, Nat.le_of_ble_eq_true rfl⟩) ⟨xB_blind, hpre _⟩ rfl rfl hl.1 rfl (lv_room (Nat.le_of_ble_eq_true rfl)) dL_areRings_111 ⟨(show cz2 + 7 ≤ 2000 by omega), (show sz2 + 42 ≤ 14000 by omega)⟩) (fun (u : Int × Int × Int × Int) => [(aR, .inr (11, [.ref aG, .ref aP, .ref aH, .ref aY, .ref aT, .ref aS, .ref aF, .ref aX, .int (iI pr), .int (iI tk), .int (iI tol), .int (iI hou)])), (aG, .inr (4, [.ref aGn, .ref aGw, .ref aGs, .int (iI kn)])), (aGn, .inl (gI g, 200, .inl (ar nd))), (aGw, .inl (gI g, 200, .inl (ar wk))), (aP, .inr (6, [.ref aPx, .ref aPy, .int (iI pn)])), (aPx, .inl (gI g, 200, .inl (ar bx))), (aPy, .inl (gI g, 200, .inl (ar byy))), (aY, .inr (10, [.ref aYh, .ref aYt, .ref aYc])), (aYh, .inl (gI g, 3, .inl (ar ht))), (aYt, .inl (gI g, 36, .inl (ar yt))), (aYc, .inl (gI g, 36, .inl (ar yc))), (aT, .inr (9, [.ref aTp, .ref aTt, .ref aTx, .ref aTy, .ref aE, .int (iI ld)])), (aTp, .inl (gI g, 200, .inl (ar tp))), (aTt, .inl (gI g, 200, .inl (ar tt))), (aTx, .inl (gI g, 200, .inl (ar kx))), (aTy, .inl (gI g, 200, .inl (ar ky))), (aF, .inr (3, [.int (iI u.1), .int (iI u.2.1), .int (iI u.2.2.1), .int (iI u.2.2.2)])), (aN, .inl (gI g, 1960, .inl (ar F)))]) rfl rfl (by decide) (fun _ => rfl) rfl (fun u v_112 H locs hv_112 pv_112 hP hD hS => ?_)
                        obtain ⟨fx_o_108, fy_o_109, fhx_o_110, fhy_o_111⟩ := u
                        have hP : va_P (gD g) vwCl [(aR, .inr (11, [.ref aG, .ref aP, .ref aH, .ref aY, .ref aT, .ref aS, .ref aF, .ref aX, .int (iI pr), .int (iI tk), .int (iI tol), .int (iI hou)])), (aG, .inr (4, [.ref aGn, .ref aGw, .ref aGs, .int (iI kn)])), (aGn, .inl (gI g, 200, .inl (ar nd))), (aGw, .inl (gI g, 200, .inl (ar wk))), (aP, .inr (6, [.ref aPx, .ref aPy, .int (iI pn)])), (aPx, .inl (gI g, 200, .inl (ar bx))), (aPy, .inl (gI g, 200, .inl (ar byy))), (aY, .inr (10, [.ref aYh, .ref aYt, .ref aYc])), (aYh, .inl (gI g, 3, .inl (ar ht))), (aYt, .inl (gI g, 36, .inl (ar yt))), (aYc, .inl (gI g, 36, .inl (ar yc))), (aT, .inr (9, [.ref aTp, .ref aTt, .ref aTx, .ref aTy, .ref aE, .int (iI ld)])), (aTp, .inl (gI g, 200, .inl (ar tp))), (aTt, .inl (gI g, 200, .inl (ar tt))), (aTx, .inl (gI g, 200, .inl (ar kx))), (aTy, .inl (gI g, 200, .inl (ar ky))), (aF, .inr (3, [.int (iI fx_o_108), .int (iI fy_o_109), .int (iI fhx_o_110), .int (iI fhy_o_111)])), (aN, .inl (gI g, 1960, .inl (ar F)))] H := hP
                        have hD : va_D A [(aR, .inr (11, [.ref aG, .ref aP, .ref aH, .ref aY, .ref aT, .ref aS, .ref aF, .ref aX, .int (iI pr), .int (iI tk), .int (iI tol), .int (iI hou)])), (aG, .inr (4, [.ref aGn, .ref aGw, .ref aGs, .int (iI kn)])), (aGn, .inl (gI g, 200, .inl (ar nd))), (aGw, .inl (gI g, 200, .inl (ar wk))), (aP, .inr (6, [.ref aPx, .ref aPy, .int (iI pn)])), (aPx, .inl (gI g, 200, .inl (ar bx))), (aPy, .inl (gI g, 200, .inl (ar byy))), (aY, .inr (10, [.ref aYh, .ref aYt, .ref aYc])), (aYh, .inl (gI g, 3, .inl (ar ht))), (aYt, .inl (gI g, 36, .inl (ar yt))), (aYc, .inl (gI g, 36, .inl (ar yc))), (aT, .inr (9, [.ref aTp, .ref aTt, .ref aTx, .ref aTy, .ref aE, .int (iI ld)])), (aTp, .inl (gI g, 200, .inl (ar tp))), (aTt, .inl (gI g, 200, .inl (ar tt))), (aTx, .inl (gI g, 200, .inl (ar kx))), (aTy, .inl (gI g, 200, .inl (ar ky))), (aF, .inr (3, [.int (iI fx_o_108), .int (iI fy_o_109), .int (iI fhx_o_110), .int (iI fhy_o_111)])), (aN, .inl (gI g, 1960, .inl (ar F)))] := hD
                        have hv_112 : v_112 = (if rgT ld zk = 0 then aI (kx zk - plO pn bx (zk + 1)) + aI (ky zk - plO pn byy (zk + 1)) else -900000 - rgT ld zk) := hv_112
                        refine lv_aload_n hx hb dL_areRings_114 rfl (lv_at hl 3 rfl) ?_
                        refine lv_iload_n hx hb dL_areRings_115 rfl (lv_at hl 1 rfl) ?_
                        refine lv_aload_n hx hb dL_areRings_116 rfl (lv_at hl 3 rfl) ?_
                        refine x_sipush hx hb dL_areRings_117 (by decide) ?_
                        refine lv_iload_n hx hb dL_areRings_120 rfl (lv_at hl 1 rfl) ?_
                        refine x_iadd hx hb dL_areRings_121 ?_
                        refine x_iald hx hb hK hP 17 0 rfl rfl (by omega) (by omega) (Nat.le_of_ble_eq_true rfl) dL_areRings_122 (fun v_113 hv_113 => ?_)
                        refine x_top (show v_113 = kx zk by
                            first
                            | (
                               rw [hv_113]; exact n1420 zk (by omega) (by omega))
                            | fail "q9") ?_
                        refine lv_aload_n hx hb dL_areRings_123 rfl (lv_at hl 3 rfl) ?_
                        refine x_sipush hx hb dL_areRings_124 (by decide) ?_
                        refine lv_iload_n hx hb dL_areRings_127 rfl (lv_at hl 1 rfl) ?_
                        refine x_iadd hx hb dL_areRings_128 ?_
                        refine x_iald hx hb hK hP 17 0 rfl rfl (by omega) (by omega) (Nat.le_of_ble_eq_true rfl) dL_areRings_129 (fun v_114 hv_114 => ?_)
                        refine x_top (show v_114 = ky zk by
                            first
                            | (
                               rw [hv_114]; exact n1620 zk (by omega) (by omega))
                            | fail "q9") ?_
                        refine x_calli (S := Unit) (wc := [(aN, .inl (gI g, 1960, .inl (ar F)))]) (wr := [(aR, .inr (11, [.ref aG, .ref aP, .ref aH, .ref aY, .ref aT, .ref aS, .ref aF, .ref aX, .int (iI pr), .int (iI tk), .int (iI tol), .int (iI hou)])), (aG, .inr (4, [.ref aGn, .ref aGw, .ref aGs, .int (iI kn)])), (aGn, .inl (gI g, 200, .inl (ar nd))), (aGw, .inl (gI g, 200, .inl (ar wk))), (aP, .inr (6, [.ref aPx, .ref aPy, .int (iI pn)])), (aPx, .inl (gI g, 200, .inl (ar bx))), (aPy, .inl (gI g, 200, .inl (ar byy))), (aY, .inr (10, [.ref aYh, .ref aYt, .ref aYc])), (aYh, .inl (gI g, 3, .inl (ar ht))), (aYt, .inl (gI g, 36, .inl (ar yt))), (aYc, .inl (gI g, 36, .inl (ar yc))), (aT, .inr (9, [.ref aTp, .ref aTt, .ref aTx, .ref aTy, .ref aE, .int (iI ld)])), (aTp, .inl (gI g, 200, .inl (ar tp))), (aTt, .inl (gI g, 200, .inl (ar tt))), (aTx, .inl (gI g, 200, .inl (ar kx))), (aTy, .inl (gI g, 200, .inl (ar ky))), (aF, .inr (3, [.int (iI fx_o_108), .int (iI fy_o_109), .int (iI fhx_o_110), .int (iI fhy_o_111)]))]) hC hP hD hS hA [17] [0, 1, 2, 3, 4, 5, 6, 7, 8, 9, 10, 11, 12, 13, 14, 15, 16] [0, 1, 2, 3, 4, 5, 6, 7, 8, 9, 10, 11, 12, 13, 14, 15, 16, 17] rfl rfl (fun hpre => va_runS (As := [.ref aN, .int (iI zk), .int (iI (kx zk)), .int (iI (ky zk))]) (rest := [.int (iI v_112)]) ⟨hx, hb, hml, hown, hts⟩ (c_L_apart l g H.size aN zk (kx zk) (ky zk) F pn bx byy (by first | (first | assumption | omega | exact bnd_up (by assumption) (by omega) (by omega)) | fail "q8") (by first | (first | assumption | omega | exact bnd_up (by assumption) (by omega) (by omega)) | fail "q8") (by first | (first | assumption | omega | exact bnd_up (by assumption) (by omega) (by omega)) | fail "q8") (by first | (first | assumption | omega | exact bnd_up (by assumption) (by omega) (by omega)) | fail "q8") (by first | (first | assumption | omega | exact bnd_up (by assumption) (by omega) (by omega)) | fail "q8") (by first | (first | assumption | omega | exact bnd_up (by assumption) (by omega) (by omega)) | fail "q8") (by first | (first | assumption | omega | exact bnd_up (by assumption) (by omega) (by omega)) | fail "q8") (by first | (first | assumption | omega | exact bnd_up (by assumption) (by omega) (by omega)) | fail "q8") (by first | (first | assumption | omega | exact bnd_up (by assumption) (by omega) (by omega)) | fail "q8")) (va_cwS 4 hts gL_areRings_L_apart rfl rfl rfl (by decide +kernel) ⟨Nat.le_of_ble_eq_true rfl, Nat.le_of_ble_eq_true rfl⟩) ⟨xB_blind, hpre _⟩ rfl rfl hl.1 rfl (lv_room (Nat.le_of_ble_eq_true rfl)) dL_areRings_130 ⟨(show cz2 + 7 ≤ 2000 by omega), (show sz2 + 42 ≤ 14000 by omega)⟩) (fun (u : Unit) => [(aR, .inr (11, [.ref aG, .ref aP, .ref aH, .ref aY, .ref aT, .ref aS, .ref aF, .ref aX, .int (iI pr), .int (iI tk), .int (iI tol), .int (iI hou)])), (aG, .inr (4, [.ref aGn, .ref aGw, .ref aGs, .int (iI kn)])), (aGn, .inl (gI g, 200, .inl (ar nd))), (aGw, .inl (gI g, 200, .inl (ar wk))), (aP, .inr (6, [.ref aPx, .ref aPy, .int (iI pn)])), (aPx, .inl (gI g, 200, .inl (ar bx))), (aPy, .inl (gI g, 200, .inl (ar byy))), (aY, .inr (10, [.ref aYh, .ref aYt, .ref aYc])), (aYh, .inl (gI g, 3, .inl (ar ht))), (aYt, .inl (gI g, 36, .inl (ar yt))), (aYc, .inl (gI g, 36, .inl (ar yc))), (aT, .inr (9, [.ref aTp, .ref aTt, .ref aTx, .ref aTy, .ref aE, .int (iI ld)])), (aTp, .inl (gI g, 200, .inl (ar tp))), (aTt, .inl (gI g, 200, .inl (ar tt))), (aTx, .inl (gI g, 200, .inl (ar kx))), (aTy, .inl (gI g, 200, .inl (ar ky))), (aF, .inr (3, [.int (iI fx_o_108), .int (iI fy_o_109), .int (iI fhx_o_110), .int (iI fhy_o_111)])), (aN, .inl (gI g, 1960, .inl (ar F)))]) rfl rfl (by decide) (fun _ => rfl) rfl (fun u v_115 H locs hv_115 pv_115 hP hD hS => ?_)
                        have hP : va_P (gD g) vwCl [(aR, .inr (11, [.ref aG, .ref aP, .ref aH, .ref aY, .ref aT, .ref aS, .ref aF, .ref aX, .int (iI pr), .int (iI tk), .int (iI tol), .int (iI hou)])), (aG, .inr (4, [.ref aGn, .ref aGw, .ref aGs, .int (iI kn)])), (aGn, .inl (gI g, 200, .inl (ar nd))), (aGw, .inl (gI g, 200, .inl (ar wk))), (aP, .inr (6, [.ref aPx, .ref aPy, .int (iI pn)])), (aPx, .inl (gI g, 200, .inl (ar bx))), (aPy, .inl (gI g, 200, .inl (ar byy))), (aY, .inr (10, [.ref aYh, .ref aYt, .ref aYc])), (aYh, .inl (gI g, 3, .inl (ar ht))), (aYt, .inl (gI g, 36, .inl (ar yt))), (aYc, .inl (gI g, 36, .inl (ar yc))), (aT, .inr (9, [.ref aTp, .ref aTt, .ref aTx, .ref aTy, .ref aE, .int (iI ld)])), (aTp, .inl (gI g, 200, .inl (ar tp))), (aTt, .inl (gI g, 200, .inl (ar tt))), (aTx, .inl (gI g, 200, .inl (ar kx))), (aTy, .inl (gI g, 200, .inl (ar ky))), (aF, .inr (3, [.int (iI fx_o_108), .int (iI fy_o_109), .int (iI fhx_o_110), .int (iI fhy_o_111)])), (aN, .inl (gI g, 1960, .inl (ar F)))] H := hP
                        have hD : va_D A [(aR, .inr (11, [.ref aG, .ref aP, .ref aH, .ref aY, .ref aT, .ref aS, .ref aF, .ref aX, .int (iI pr), .int (iI tk), .int (iI tol), .int (iI hou)])), (aG, .inr (4, [.ref aGn, .ref aGw, .ref aGs, .int (iI kn)])), (aGn, .inl (gI g, 200, .inl (ar nd))), (aGw, .inl (gI g, 200, .inl (ar wk))), (aP, .inr (6, [.ref aPx, .ref aPy, .int (iI pn)])), (aPx, .inl (gI g, 200, .inl (ar bx))), (aPy, .inl (gI g, 200, .inl (ar byy))), (aY, .inr (10, [.ref aYh, .ref aYt, .ref aYc])), (aYh, .inl (gI g, 3, .inl (ar ht))), (aYt, .inl (gI g, 36, .inl (ar yt))), (aYc, .inl (gI g, 36, .inl (ar yc))), (aT, .inr (9, [.ref aTp, .ref aTt, .ref aTx, .ref aTy, .ref aE, .int (iI ld)])), (aTp, .inl (gI g, 200, .inl (ar tp))), (aTt, .inl (gI g, 200, .inl (ar tt))), (aTx, .inl (gI g, 200, .inl (ar kx))), (aTy, .inl (gI g, 200, .inl (ar ky))), (aF, .inr (3, [.int (iI fx_o_108), .int (iI fy_o_109), .int (iI fhx_o_110), .int (iI fhy_o_111)])), (aN, .inl (gI g, 1960, .inl (ar F)))] := hD
                        have hv_115 : v_115 = aI ((kx zk) - plO pn bx (zk + 1)) + aI ((ky zk) - plO pn byy (zk + 1)) := hv_115
                        have pv_115 : 0 ≤ v_115 ∧ v_115 ≤ 3000000 := by first | exact pv_115 | (rw [hv_115]; exact pv_115)
                        refine x_cmp_eq (tgt := 138) hx hb (by omega) (by omega) dL_areRings_133 (by decide) (fun c_116 => ?_) (fun c_116 => ?_)
                        · skip
                          refine x_iinc (k := 1) (lv' := [(2, .int (iI (zk + 1))), (3, .int (iI 1)), (0, .ref aR), (1, .ref aN)]) hx hb dL_areRings_138 hl rfl (by decide) rfl (fun ls hl => ?_)
                          refine lv_goto (tgt := 2) hx hb dL_areRings_141 (by decide) ?_
                          exact ih2 (zk + 1) fx_o_108 fy_o_109 fhx_o_110 fhy_o_111 _ _ (by omega) (by omega) (show 0 ≤ (zk + 1) ∧ (zk + 1) ≤ ld by
                              first
                              | (
                                 first | assumption | omega | rfl)
                              | fail "q9") (by
                              first
                              | (
                                 omega)
                              | fail "q9") _ _ hP hD hS ls (lv_sub hl [0, 2, 3] rfl)
                        · skip
                          exfalso
                          first
                          | (
                             omega)
                          | fail "q9"
    exact lp2 (ld + 1 - 0 : Int).toNat 0 fx fy fhx fhy _ _ (by omega) (by omega) (show 0 ≤ 0 ∧ 0 ≤ ld by
        first
        | (
           first | assumption | omega | rfl)
        | fail "q9") (by omega) _ _ hP hD hS ls (lv_sub hl [0, 1, 2] rfl)
  rw [hH, hlo, hQ9] at goal_
  exact goal_
