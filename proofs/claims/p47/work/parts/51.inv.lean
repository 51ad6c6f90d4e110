/-! sinking -/
theorem sinkF_at (k : Int) (F : Int → Int) (i fa j : Int) : sinkF k F i fa j = F j + (if (0 ≤ i ∧ i < k) ∧ j = i then fa else 0) := by
  unfold sinkF
  by_cases h : 0 ≤ i ∧ i < k
  · rw [if_pos h]
    by_cases q : j = i
    · rw [q, up_eq, if_pos ⟨h, rfl⟩]
    · rw [up_ne _ _ q, if_neg (fun z => q z.2), Int.add_zero]
  · rw [if_neg h, if_neg (fun z => h z.1), Int.add_zero]
theorem sinkF_le {k : Int} {F : Int → Int} {i fa : Int} (h : 0 ≤ fa) (j : Int) : F j ≤ sinkF k F i fa j := by
  rw [sinkF_at]
  split <;> omega
theorem mxI_mono {F G : Int → Int} (h : ∀ j : Int, F j ≤ G j) (a n : Int) : mxI F a n ≤ mxI G a n := by
  unfold mxI
  generalize n.toNat = k
  induction k with
  | zero => exact Int.le_refl 0
  | succ k ih =>
    have h2 := h (a + (k : Int))
    show mx (mxN F a k) (F (a + (k : Int))) ≤ mx (mxN G a k) (G (a + (k : Int)))
    have h3 := mx_r (mxN F a k) (F (a + (k : Int))) rfl
    have h4 := mx_r (mxN G a k) (G (a + (k : Int))) rfl
    omega
theorem pay_mono {sk sk' fi la li ra pa : Int → Int} {h : Int} (hsk : ∀ j : Int, sk j ≤ sk' j) (hra : 0 ≤ ra h) (hp : 0 ≤ pa h ∧ pa h ≤ mx 0 (mostF sk fi la h - li h) * ra h) : 0 ≤ pa h ∧ pa h ≤ mx 0 (mostF sk' fi la h - li h) * ra h := by
  have h1 : mostF sk fi la h ≤ mostF sk' fi la h := mxI_mono hsk _ _
  have h2 : mx 0 (mostF sk fi la h - li h) ≤ mx 0 (mostF sk' fi la h - li h) := by
    have a1 := mx_r 0 (mostF sk fi la h - li h) rfl
    have a2 := mx_r 0 (mostF sk' fi la h - li h) rfl
    omega
  exact ⟨hp.1, Int.le_trans hp.2 (Int.mul_le_mul_of_nonneg_right h2 hra)⟩
theorem fall_b {nd wk : Int → Int} {kn ld pr : Int} (h1 : bnd nd 0 100) (h2 : bnd wk 0 20) (h3 : 0 ≤ pr ∧ pr ≤ 100) : 0 ≤ mx 0 (gt0 kn nd ld - pr) * gt0 kn wk ld ∧ mx 0 (gt0 kn nd ld - pr) * gt0 kn wk ld ≤ 2000 := by
  have m1 := gt0_r (k := kn) (i := ld) h1 (by omega) (by omega)
  have m2 := gt0_r (k := kn) (i := ld) h2 (by omega) (by omega)
  have m0 := mx_r 0 (gt0 kn nd ld - pr) rfl
  have m3 := mulb0 (A := 100) (B := 20) (a := mx 0 (gt0 kn nd ld - pr)) (b := gt0 kn wk ld) (by omega) (by omega)
  omega
theorem bnd_lay {kn hou ld f : Int} {sk : Int → Int} (h : bnd sk 0 (100 * hou)) (hf : 0 ≤ f ∧ f ≤ 200) : bnd (sinkF kn (sinkF kn (sinkF kn sk ld f) (ld - 1) (f / 2)) (ld + 1) (f / 2)) 0 (100 * (hou + 2)) := by
  intro j
  have h1 := h j
  rw [sinkF_at, sinkF_at, sinkF_at]
  omega
/-! the line -/
theorem lnH_congr {tt tp tt' tp' S : Int → Int} {n : Int} (hn : 0 ≤ n) (h : ∀ k : Int, 0 ≤ k → k < n → tt' k = tt k ∧ tp' k = tp k) : lnH tt' tp' S n = lnH tt tp S n := sumI_ext hn (fun k h1 h2 => by
  show tt' k * S (tp' k) = tt k * S (tp k)
  rw [(h k h1 h2).1, (h k h1 h2).2])
theorem lnO_congr {tt tp tt' tp' S : Int → Int} {n : Int} (hn : 0 ≤ n) (h : ∀ k : Int, 0 ≤ k → k < n → tt' k = tt k ∧ tp' k = tp k) : lnO tt' tp' S n = lnO tt tp S n := sumI_ext hn (fun k h1 h2 => by
  show lnH tt' tp' S (k + 1) = lnH tt tp S (k + 1)
  exact lnH_congr (by omega) (fun j h3 h4 => h j h3 (by omega)))
theorem up_old {tt tp : Int → Int} {ld ta po : Int} : ∀ k : Int, 0 ≤ k → k < ld → up tt ld ta k = tt k ∧ up tp ld po k = tp k := fun k _ h => ⟨up_ne _ _ (by omega), up_ne _ _ (by omega)⟩
theorem lnH_new {tt tp S : Int → Int} {ld ta po : Int} (h : 0 ≤ ld) : lnH (up tt ld ta) (up tp ld po) S (ld + 1) = lnH tt tp S ld + ta * S po := by
  rw [lnH_step h, lnH_congr h up_old, up_eq, up_eq]
theorem lnO_new {tt tp S : Int → Int} {ld ta po : Int} (h : 0 ≤ ld) : lnO (up tt ld ta) (up tp ld po) S (ld + 1) = lnO tt tp S ld + (lnH tt tp S ld + ta * S po) := by
  rw [lnO_step h, lnO_congr h up_old, lnH_new h]
theorem lastF_line {tt tp S kx : Int → Int} {ld : Int} (h : 0 ≤ ld) (hk : ∀ k : Int, 0 ≤ k → k < ld → kx k = lnO tt tp S (k + 1)) : lastF ld kx = lnO tt tp S ld := by
  unfold lastF
  by_cases q : ld = 0
  · rw [if_pos q, q]
    rfl
  · rw [if_neg q, hk (ld - 1) (by omega) (by omega), show ld - 1 + 1 = ld by omega]
theorem lastF_new {kx : Int → Int} {ld v : Int} (h : 0 ≤ ld) : v = lastF (ld + 1) (up kx ld v) := by
  unfold lastF
  rw [if_neg (by omega), show ld + 1 - 1 = ld by omega, up_eq]
theorem kx_new {tt tp S kx : Int → Int} {ld ta po v : Int} (h : 0 ≤ ld) (hk : ∀ k : Int, 0 ≤ k → k < ld → kx k = lnO tt tp S (k + 1)) (hv : v = lnO tt tp S ld + (lnH tt tp S ld + ta * S po)) : ∀ k : Int, 0 ≤ k → k < ld + 1 → up kx ld v k = lnO (up tt ld ta) (up tp ld po) S (k + 1) := by
  intro k h1 h2
  by_cases q : k = ld
  · rw [q, up_eq, lnO_new h, hv]
  · rw [up_ne _ _ q, hk k h1 (by omega)]
    exact (lnO_congr (by omega) (fun j h3 h4 => up_old j h3 (by omega))).symm
theorem fit_new {tp : Int → Int} {ld po : Int} (h : 0 ≤ ld) (hf : ∀ k : Int, 0 ≤ k → k + 1 < ld → fitP (tp k) (tp (k + 1))) (hn : fitP (lastP ld tp) po) : ∀ k : Int, 0 ≤ k → k + 1 < ld + 1 → fitP (up tp ld po k) (up tp ld po (k + 1)) := by
  intro k h1 h2
  rw [up_ne _ _ (show k ≠ ld by omega)]
  by_cases q : k + 1 = ld
  · rw [q, up_eq]
    unfold lastP at hn
    rw [if_neg (by omega), show ld - 1 = k by omega] at hn
    exact hn
  · rw [up_ne _ _ q]
    exact hf k h1 (by omega)
theorem reaF_45 {kn ld hts cure be po tk tak dev tol : Int} (h : reaF kn ld hts cure be po tk tak dev tol = 45) : ld < kn ∧ hts ≠ 0 ∧ cure ≤ 0 ∧ fitP be po ∧ tak ≤ tk ∧ dev ≤ tol := by
  unfold reaF at h
  by_cases h1 : kn ≤ ld
  · rw [if_pos h1] at h; exact absurd h (by decide)
  rw [if_neg h1] at h
  by_cases h2 : hts = 0
  · rw [if_pos h2] at h; exact absurd h (by decide)
  rw [if_neg h2] at h
  by_cases h3 : 0 < cure
  · rw [if_pos h3] at h; exact absurd h (by decide)
  rw [if_neg h3] at h
  by_cases h4 : fitP be po
  · rw [if_neg (show ¬ ¬ fitP be po from fun q => q h4)] at h
    by_cases h5 : tk < tak
    · rw [if_pos h5] at h; exact absurd h (by decide)
    rw [if_neg h5] at h
    by_cases h6 : tol < dev
    · rw [if_pos h6] at h; exact absurd h (by decide)
    exact ⟨by omega, h2, by omega, h4, by omega, by omega⟩
  · rw [if_pos h4] at h; exact absurd h (by decide)
theorem laT_0 {sta po rea hou : Int} (h : laT sta po rea hou = 0) : (0 ≤ sta ∧ sta ≤ 2) ∧ (0 ≤ po ∧ po ≤ 7) ∧ rea = 45 ∧ hou + 2 ≤ 5000 := by
  unfold laT at h
  omega
theorem wrN_b {tp tt sg : Int → Int} (h1 : bnd tp 0 7) (h2 : bnd tt 0 9) (h3 : bnd sg 0 65535) (rg n : Int) : bnd (wrI tp tt sg rg n) 0 65535 := by
  unfold wrI
  generalize n.toNat = k
  induction k with
  | zero => exact h3
  | succ k ih =>
    have a1 := h1 (rg + (k : Int))
    have a2 := h2 (rg + (k : Int))
    have a3 : bnd (if (k : Int) = 0 then wrN tp tt sg rg k else up (wrN tp tt sg rg k) (4 * (k : Int) - 1) 32) 0 65535 := by
      split
      · exact ih
      · exact bnd_up ih (by omega) (by omega)
    exact bnd_up (bnd_up (bnd_up a3 (by omega) (by omega)) (by omega) (by omega)) (by omega) (by omega)
/-! the invariant -/
def LI (kn pn ld bu tl hou pr tk tol ex ey ehx ehy : Int) (nd wk sk bx byy fi la li ra pa ht yt yc tp tt kx ky st sx sy sg : Int → Int) : Prop :=
  (0 ≤ kn ∧ kn ≤ 200) ∧ (0 ≤ pn ∧ pn ≤ 200) ∧ (0 ≤ ld ∧ ld ≤ 200) ∧ (0 ≤ bu ∧ bu ≤ 8) ∧ (0 ≤ tl ∧ tl ≤ 40) ∧ (0 ≤ hou ∧ hou ≤ 5000) ∧ (0 ≤ pr ∧ pr ≤ 100) ∧ (0 ≤ tk ∧ tk ≤ 1000) ∧ (0 ≤ tol ∧ tol ≤ 9999) ∧ (ex = lastF ld kx) ∧ (ey = lastF ld ky) ∧ (ehx = lnH tt tp toSide ld) ∧ (ehy = lnH tt tp upward ld) ∧ (bnd nd 0 100) ∧ (bnd wk 0 20) ∧ (bnd bx (-5) 5) ∧ (bnd byy (-5) 5) ∧ (bnd tp 0 7) ∧ (bnd tt 0 9) ∧ (bnd yt 0 9) ∧ (bnd ht 0 12) ∧ (bnd yc 0 5000) ∧ (bnd fi 0 199) ∧ (bnd la 0 199) ∧ (bnd li 0 100) ∧ (bnd ra 0 50) ∧ (bnd pa 0 100000000) ∧ (bnd st 0 9) ∧ (bnd sx (-5) 5) ∧ (bnd sy (-5) 5) ∧ (bnd sg 0 65535) ∧ (bnd kx (-400000) 400000) ∧ (bnd ky (-400000) 400000) ∧ (bnd sk 0 (100 * hou)) ∧ (∀ h : Int, 0 ≤ h → h < bu → fi h ≤ la h) ∧ (∀ h : Int, 0 ≤ h → h < bu → la h < kn) ∧ (∀ h : Int, 0 ≤ h → h < bu → 0 ≤ pa h ∧ pa h ≤ mx 0 (mostF sk fi la h - li h) * ra h) ∧ (∀ h : Int, bu ≤ h → pa h = 0) ∧ (ld ≤ kn) ∧ (∀ k : Int, 0 ≤ k → k < ld → kx k = lnO tt tp toSide (k + 1)) ∧ (∀ k : Int, 0 ≤ k → k < ld → ky k = lnO tt tp upward (k + 1)) ∧ (∀ k : Int, 0 ≤ k → k + 1 < ld → fitP (tp k) (tp (k + 1)))
theorem LI_more {kn pn ld bu tl hou pr tk tol ex ey ehx ehy : Int} {nd wk sk bx byy fi la li ra pa ht yt yc tp tt kx ky st sx sy sg : Int → Int} (hI : LI kn pn ld bu tl hou pr tk tol ex ey ehx ehy nd wk sk bx byy fi la li ra pa ht yt yc tp tt kx ky st sx sy sg) : bnd sk 0 500000 ∧ (-400000 ≤ ex ∧ ex ≤ 400000) ∧ (-400000 ≤ ey ∧ ey ≤ 400000) ∧ (-2000 ≤ ehx ∧ ehx ≤ 2000) ∧ (-2000 ≤ ehy ∧ ehy ≤ 2000) := by
  obtain ⟨hkn, hpn, hld, hbu, htl, hhou, hpr, htk, htol, helx, hely, hhx, hhy, hb_nd, hb_wk, hb_bx, hb_byy, hb_tp, hb_tt, hb_yt, hb_ht, hb_yc, hb_fi, hb_la, hb_li, hb_ra, hb_pa, hb_st, hb_sx, hb_sy, hb_sg, hb_kx, hb_ky, hskh, hfl, hlk, hpa, hpz, hldk, hkx, hky, hft⟩ := hI
  refine ⟨fun i => ⟨(hskh i).1, by have := hskh i; omega⟩, by rw [helx]; exact lastF_r hb_kx (by omega) (by omega), by rw [hely]; exact lastF_r hb_ky (by omega) (by omega), ?_, ?_⟩
  · have := lnH_b (tp := tp) hb_tt toSide_r (n := ld) hld.1
    omega
  · have := lnH_b (tp := tp) hb_tt upward_r (n := ld) hld.1
    omega
theorem LI_addGround {kn pn ld bu tl hou pr tk tol ex ey ehx ehy : Int} {nd wk sk bx byy fi la li ra pa ht yt yc tp tt kx ky st sx sy sg : Int → Int} {rgs nn nw : Int} (hI : LI kn pn ld bu tl hou pr tk tol ex ey ehx ehy nd wk sk bx byy fi la li ra pa ht yt yc tp tt kx ky st sx sy sg) (c : agT kn rgs nn nw = 0) : LI (kn + rgs) pn ld bu tl hou pr tk tol ex ey ehx ehy (fil nd kn (kn + rgs) nn) (fil wk kn (kn + rgs) nw) sk bx byy fi la li ra pa ht yt yc tp tt kx ky st sx sy sg := by
  obtain ⟨hkn, hpn, hld, hbu, htl, hhou, hpr, htk, htol, helx, hely, hhx, hhy, hb_nd, hb_wk, hb_bx, hb_byy, hb_tp, hb_tt, hb_yt, hb_ht, hb_yc, hb_fi, hb_la, hb_li, hb_ra, hb_pa, hb_st, hb_sx, hb_sy, hb_sg, hb_kx, hb_ky, hskh, hfl, hlk, hpa, hpz, hldk, hkx, hky, hft⟩ := hI
  have ha : (1 ≤ rgs ∧ rgs ≤ 50) ∧ (0 ≤ nn ∧ nn ≤ 100) ∧ (0 ≤ nw ∧ nw ≤ 20) ∧ kn + rgs ≤ 200 := by unfold agT at c; omega
  exact ⟨(by first | assumption | omega), hpn, hld, hbu, htl, hhou, hpr, htk, htol, helx, hely, hhx, hhy, (by
      exact bnd_fil hb_nd (by omega) (by omega)), (by
      exact bnd_fil hb_wk (by omega) (by omega)), hb_bx, hb_byy, hb_tp, hb_tt, hb_yt, hb_ht, hb_yc, hb_fi, hb_la, hb_li, hb_ra, hb_pa, hb_st, hb_sx, hb_sy, hb_sg, hb_kx, hb_ky, hskh, hfl, (by
      intro h h1 h2
      have := hlk h h1 h2
      omega), hpa, hpz, (by first | assumption | omega), hkx, hky, hft⟩
theorem LI_addCurve {kn pn ld bu tl hou pr tk tol ex ey ehx ehy : Int} {nd wk sk bx byy fi la li ra pa ht yt yc tp tt kx ky st sx sy sg : Int → Int} {rgs nx ny : Int} (hI : LI kn pn ld bu tl hou pr tk tol ex ey ehx ehy nd wk sk bx byy fi la li ra pa ht yt yc tp tt kx ky st sx sy sg) (c : acT pn rgs nx ny = 0) : LI kn (pn + rgs) ld bu tl hou pr tk tol ex ey ehx ehy nd wk sk (fil bx pn (pn + rgs) nx) (fil byy pn (pn + rgs) ny) fi la li ra pa ht yt yc tp tt kx ky st sx sy sg := by
  obtain ⟨hkn, hpn, hld, hbu, htl, hhou, hpr, htk, htol, helx, hely, hhx, hhy, hb_nd, hb_wk, hb_bx, hb_byy, hb_tp, hb_tt, hb_yt, hb_ht, hb_yc, hb_fi, hb_la, hb_li, hb_ra, hb_pa, hb_st, hb_sx, hb_sy, hb_sg, hb_kx, hb_ky, hskh, hfl, hlk, hpa, hpz, hldk, hkx, hky, hft⟩ := hI
  have ha : (1 ≤ rgs ∧ rgs ≤ 50) ∧ (-5 ≤ nx ∧ nx ≤ 5) ∧ (-5 ≤ ny ∧ ny ≤ 5) ∧ pn + rgs ≤ 200 := by unfold acT at c; omega
  exact ⟨hkn, (by first | assumption | omega), hld, hbu, htl, hhou, hpr, htk, htol, helx, hely, hhx, hhy, hb_nd, hb_wk, (by
      exact bnd_fil hb_bx (by omega) (by omega)), (by
      exact bnd_fil hb_byy (by omega) (by omega)), hb_tp, hb_tt, hb_yt, hb_ht, hb_yc, hb_fi, hb_la, hb_li, hb_ra, hb_pa, hb_st, hb_sx, hb_sy, hb_sg, hb_kx, hb_ky, hskh, hfl, hlk, hpa, hpz, hldk, hkx, hky, hft⟩
theorem LI_addHouse {kn pn ld bu tl hou pr tk tol ex ey ehx ehy : Int} {nd wk sk bx byy fi la li ra pa ht yt yc tp tt kx ky st sx sy sg : Int → Int} {fr lr nl nr : Int} (hI : LI kn pn ld bu tl hou pr tk tol ex ey ehx ehy nd wk sk bx byy fi la li ra pa ht yt yc tp tt kx ky st sx sy sg) (c : ahT kn bu fr lr nl nr = 0) : LI kn pn ld (bu + 1) tl hou pr tk tol ex ey ehx ehy nd wk sk bx byy (up fi bu fr) (up la bu lr) (up li bu nl) (up ra bu nr) pa ht yt yc tp tt kx ky st sx sy sg := by
  obtain ⟨hkn, hpn, hld, hbu, htl, hhou, hpr, htk, htol, helx, hely, hhx, hhy, hb_nd, hb_wk, hb_bx, hb_byy, hb_tp, hb_tt, hb_yt, hb_ht, hb_yc, hb_fi, hb_la, hb_li, hb_ra, hb_pa, hb_st, hb_sx, hb_sy, hb_sg, hb_kx, hb_ky, hskh, hfl, hlk, hpa, hpz, hldk, hkx, hky, hft⟩ := hI
  have ha : (0 ≤ fr ∧ fr ≤ lr ∧ lr < kn) ∧ (0 ≤ nl ∧ nl ≤ 100) ∧ (1 ≤ nr ∧ nr ≤ 50) ∧ bu ≠ 8 := by unfold ahT at c; omega
  have hne : ∀ h : Int, 0 ≤ h → h < bu → h ≠ bu := fun h _ h2 => by omega
  have e1 : ∀ h : Int, 0 ≤ h → h < bu → up fi bu fr h = fi h := fun h h1 h2 => up_ne _ _ (hne h h1 h2)
  have e2 : ∀ h : Int, 0 ≤ h → h < bu → up la bu lr h = la h := fun h h1 h2 => up_ne _ _ (hne h h1 h2)
  exact ⟨hkn, hpn, hld, (by first | assumption | omega), htl, hhou, hpr, htk, htol, helx, hely, hhx, hhy, hb_nd, hb_wk, hb_bx, hb_byy, hb_tp, hb_tt, hb_yt, hb_ht, hb_yc, (by
      exact bnd_up hb_fi (by omega) (by omega)), (by
      exact bnd_up hb_la (by omega) (by omega)), (by
      exact bnd_up hb_li (by omega) (by omega)), (by
      exact bnd_up hb_ra (by omega) (by omega)), hb_pa, hb_st, hb_sx, hb_sy, hb_sg, hb_kx, hb_ky, hskh, (by
      intro h h1 h2
      by_cases q : h = bu
      · subst q
        rw [up_eq, up_eq]
        omega
      · have h3 : h < bu := by omega
        rw [e1 h h1 h3, e2 h h1 h3]
        exact hfl h h1 h3), (by
      intro h h1 h2
      by_cases q : h = bu
      · subst q
        rw [up_eq]
        omega
      · have h3 : h < bu := by omega
        rw [e2 h h1 h3]
        exact hlk h h1 h3), (by
      intro h h1 h2
      by_cases q : h = bu
      · subst q
        rw [hpz h (by omega), up_eq ra]
        refine ⟨Int.le_refl 0, Int.mul_nonneg ?_ (by omega)⟩
        exact (mx_r 0 _ rfl).1
      · have h3 : h < bu := by omega
        have e3 : mostF sk (up fi bu fr) (up la bu lr) h = mostF sk fi la h := by unfold mostF; rw [e1 h h1 h3, e2 h h1 h3]
        rw [e3, up_ne li _ q, up_ne ra _ q]
        exact hpa h h1 h3), (by
      intro h h1
      exact hpz h (by omega)), hldk, hkx, hky, hft⟩
theorem LI_cast {kn pn ld bu tl hou pr tk tol ex ey ehx ehy : Int} {nd wk sk bx byy fi la li ra pa ht yt yc tp tt kx ky st sx sy sg : Int → Int} {sta nt : Int} (hI : LI kn pn ld bu tl hou pr tk tol ex ey ehx ehy nd wk sk bx byy fi la li ra pa ht yt yc tp tt kx ky st sx sy sg) (c : caT ht sta nt = 0) : LI kn pn ld bu tl hou pr tk tol ex ey ehx ehy nd wk sk bx byy fi la li ra pa (up ht sta (ht sta + 1)) (up yt (sta * 12 + ht sta) nt) (up yc (sta * 12 + ht sta) hou) tp tt kx ky st sx sy sg := by
  obtain ⟨hkn, hpn, hld, hbu, htl, hhou, hpr, htk, htol, helx, hely, hhx, hhy, hb_nd, hb_wk, hb_bx, hb_byy, hb_tp, hb_tt, hb_yt, hb_ht, hb_yc, hb_fi, hb_la, hb_li, hb_ra, hb_pa, hb_st, hb_sx, hb_sy, hb_sg, hb_kx, hb_ky, hskh, hfl, hlk, hpa, hpz, hldk, hkx, hky, hft⟩ := hI
  have hs := hb_ht sta
  have ha : (0 ≤ nt ∧ nt ≤ 9) ∧ ht sta ≠ 12 := by unfold caT at c; omega
  exact ⟨hkn, hpn, hld, hbu, htl, hhou, hpr, htk, htol, helx, hely, hhx, hhy, hb_nd, hb_wk, hb_bx, hb_byy, hb_tp, hb_tt, (by
      exact bnd_up hb_yt (by omega) (by omega)), (by
      exact bnd_up hb_ht (by omega) (by omega)), (by
      exact bnd_up hb_yc (by omega) (by omega)), hb_fi, hb_la, hb_li, hb_ra, hb_pa, hb_st, hb_sx, hb_sy, hb_sg, hb_kx, hb_ky, hskh, hfl, hlk, hpa, hpz, hldk, hkx, hky, hft⟩
theorem LI_restack {kn pn ld bu tl hou pr tk tol ex ey ehx ehy : Int} {nd wk sk bx byy fi la li ra pa ht yt yc tp tt kx ky st sx sy sg : Int → Int} {sta stb : Int} (hI : LI kn pn ld bu tl hou pr tk tol ex ey ehx ehy nd wk sk bx byy fi la li ra pa ht yt yc tp tt kx ky st sx sy sg) (c : reT ht sta stb = 0) : LI kn pn ld bu tl hou pr tk tol ex ey ehx ehy nd wk sk bx byy fi la li ra pa (rsH ht sta stb) (rsF ht yt sta stb) (rsF ht yc sta stb) tp tt kx ky st sx sy sg := by
  obtain ⟨hkn, hpn, hld, hbu, htl, hhou, hpr, htk, htol, helx, hely, hhx, hhy, hb_nd, hb_wk, hb_bx, hb_byy, hb_tp, hb_tt, hb_yt, hb_ht, hb_yc, hb_fi, hb_la, hb_li, hb_ra, hb_pa, hb_st, hb_sx, hb_sy, hb_sg, hb_kx, hb_ky, hskh, hfl, hlk, hpa, hpz, hldk, hkx, hky, hft⟩ := hI
  have hs := hb_ht sta
  have hs2 := hb_ht stb
  have ha : ht sta ≠ 0 ∧ (sta = stb ∨ ht stb ≠ 12) := by unfold reT at c; omega
  have hb1 : bnd (up ht sta (ht sta - 1)) 0 12 := bnd_up hb_ht (by omega) (by omega)
  have hu : 0 ≤ up ht sta (ht sta - 1) stb ∧ up ht sta (ht sta - 1) stb < 12 := by
    by_cases q : stb = sta
    · rw [q, up_eq]; omega
    · rw [up_ne _ _ q]; omega
  exact ⟨hkn, hpn, hld, hbu, htl, hhou, hpr, htk, htol, helx, hely, hhx, hhy, hb_nd, hb_wk, hb_bx, hb_byy, hb_tp, hb_tt, (by
      exact bnd_up hb_yt (hb_yt _).1 (hb_yt _).2), (by
      exact bnd_up hb1 (by omega) (by omega)), (by
      exact bnd_up hb_yc (hb_yc _).1 (hb_yc _).2), hb_fi, hb_la, hb_li, hb_ra, hb_pa, hb_st, hb_sx, hb_sy, hb_sg, hb_kx, hb_ky, hskh, hfl, hlk, hpa, hpz, hldk, hkx, hky, hft⟩
theorem LI_setPressure {kn pn ld bu tl hou pr tk tol ex ey ehx ehy : Int} {nd wk sk bx byy fi la li ra pa ht yt yc tp tt kx ky st sx sy sg : Int → Int} {pre : Int} (hI : LI kn pn ld bu tl hou pr tk tol ex ey ehx ehy nd wk sk bx byy fi la li ra pa ht yt yc tp tt kx ky st sx sy sg) (c : inT 0 100 pre = 0) : LI kn pn ld bu tl hou pre tk tol ex ey ehx ehy nd wk sk bx byy fi la li ra pa ht yt yc tp tt kx ky st sx sy sg := by
  obtain ⟨hkn, hpn, hld, hbu, htl, hhou, hpr, htk, htol, helx, hely, hhx, hhy, hb_nd, hb_wk, hb_bx, hb_byy, hb_tp, hb_tt, hb_yt, hb_ht, hb_yc, hb_fi, hb_la, hb_li, hb_ra, hb_pa, hb_st, hb_sx, hb_sy, hb_sg, hb_kx, hb_ky, hskh, hfl, hlk, hpa, hpz, hldk, hkx, hky, hft⟩ := hI
  have ha : 0 ≤ pre ∧ pre ≤ 100 := by unfold inT at c; omega
  exact ⟨hkn, hpn, hld, hbu, htl, hhou, (by first | assumption | omega), htk, htol, helx, hely, hhx, hhy, hb_nd, hb_wk, hb_bx, hb_byy, hb_tp, hb_tt, hb_yt, hb_ht, hb_yc, hb_fi, hb_la, hb_li, hb_ra, hb_pa, hb_st, hb_sx, hb_sy, hb_sg, hb_kx, hb_ky, hskh, hfl, hlk, hpa, hpz, hldk, hkx, hky, hft⟩
theorem LI_setTolerance {kn pn ld bu tl hou pr tk tol ex ey ehx ehy : Int} {nd wk sk bx byy fi la li ra pa ht yt yc tp tt kx ky st sx sy sg : Int → Int} {nto : Int} (hI : LI kn pn ld bu tl hou pr tk tol ex ey ehx ehy nd wk sk bx byy fi la li ra pa ht yt yc tp tt kx ky st sx sy sg) (c : inT 0 9999 nto = 0) : LI kn pn ld bu tl hou pr tk nto ex ey ehx ehy nd wk sk bx byy fi la li ra pa ht yt yc tp tt kx ky st sx sy sg := by
  obtain ⟨hkn, hpn, hld, hbu, htl, hhou, hpr, htk, htol, helx, hely, hhx, hhy, hb_nd, hb_wk, hb_bx, hb_byy, hb_tp, hb_tt, hb_yt, hb_ht, hb_yc, hb_fi, hb_la, hb_li, hb_ra, hb_pa, hb_st, hb_sx, hb_sy, hb_sg, hb_kx, hb_ky, hskh, hfl, hlk, hpa, hpz, hldk, hkx, hky, hft⟩ := hI
  have ha : 0 ≤ nto ∧ nto ≤ 9999 := by unfold inT at c; omega
  exact ⟨hkn, hpn, hld, hbu, htl, hhou, hpr, htk, (by first | assumption | omega), helx, hely, hhx, hhy, hb_nd, hb_wk, hb_bx, hb_byy, hb_tp, hb_tt, hb_yt, hb_ht, hb_yc, hb_fi, hb_la, hb_li, hb_ra, hb_pa, hb_st, hb_sx, hb_sy, hb_sg, hb_kx, hb_ky, hskh, hfl, hlk, hpa, hpz, hldk, hkx, hky, hft⟩
theorem LI_addSlurry {kn pn ld bu tl hou pr tk tol ex ey ehx ehy : Int} {nd wk sk bx byy fi la li ra pa ht yt yc tp tt kx ky st sx sy sg : Int → Int} {vo : Int} (hI : LI kn pn ld bu tl hou pr tk tol ex ey ehx ehy nd wk sk bx byy fi la li ra pa ht yt yc tp tt kx ky st sx sy sg) (c : slT tk vo = 0) : LI kn pn ld bu tl hou pr (tk + vo) tol ex ey ehx ehy nd wk sk bx byy fi la li ra pa ht yt yc tp tt kx ky st sx sy sg := by
  obtain ⟨hkn, hpn, hld, hbu, htl, hhou, hpr, htk, htol, helx, hely, hhx, hhy, hb_nd, hb_wk, hb_bx, hb_byy, hb_tp, hb_tt, hb_yt, hb_ht, hb_yc, hb_fi, hb_la, hb_li, hb_ra, hb_pa, hb_st, hb_sx, hb_sy, hb_sg, hb_kx, hb_ky, hskh, hfl, hlk, hpa, hpz, hldk, hkx, hky, hft⟩ := hI
  have ha : 0 ≤ tk + vo ∧ tk + vo ≤ 1000 := by unfold slT at c; omega
  exact ⟨hkn, hpn, hld, hbu, htl, hhou, hpr, (by first | assumption | omega), htol, helx, hely, hhx, hhy, hb_nd, hb_wk, hb_bx, hb_byy, hb_tp, hb_tt, hb_yt, hb_ht, hb_yc, hb_fi, hb_la, hb_li, hb_ra, hb_pa, hb_st, hb_sx, hb_sy, hb_sg, hb_kx, hb_ky, hskh, hfl, hlk, hpa, hpz, hldk, hkx, hky, hft⟩
theorem LI_junk {kn pn ld bu tl hou pr tk tol ex ey ehx ehy : Int} {nd wk sk bx byy fi la li ra pa ht yt yc tp tt kx ky st sx sy sg : Int → Int} {st2 sx2 sy2 : Int → Int} (hI : LI kn pn ld bu tl hou pr tk tol ex ey ehx ehy nd wk sk bx byy fi la li ra pa ht yt yc tp tt kx ky st sx sy sg) (h1 : bnd st2 0 9) (h2 : bnd sx2 (-5) 5) (h3 : bnd sy2 (-5) 5) : LI kn pn ld bu tl hou pr tk tol ex ey ehx ehy nd wk sk bx byy fi la li ra pa ht yt yc tp tt kx ky st2 sx2 sy2 sg := by
  obtain ⟨hkn, hpn, hld, hbu, htl, hhou, hpr, htk, htol, helx, hely, hhx, hhy, hb_nd, hb_wk, hb_bx, hb_byy, hb_tp, hb_tt, hb_yt, hb_ht, hb_yc, hb_fi, hb_la, hb_li, hb_ra, hb_pa, hb_st, hb_sx, hb_sy, hb_sg, hb_kx, hb_ky, hskh, hfl, hlk, hpa, hpz, hldk, hkx, hky, hft⟩ := hI
  exact ⟨hkn, hpn, hld, hbu, htl, hhou, hpr, htk, htol, helx, hely, hhx, hhy, hb_nd, hb_wk, hb_bx, hb_byy, hb_tp, hb_tt, hb_yt, hb_ht, hb_yc, hb_fi, hb_la, hb_li, hb_ra, hb_pa, (by first | assumption | omega), (by first | assumption | omega), (by first | assumption | omega), hb_sg, hb_kx, hb_ky, hskh, hfl, hlk, hpa, hpz, hldk, hkx, hky, hft⟩
theorem LI_stop {kn pn ld bu tl hou pr tk tol ex ey ehx ehy : Int} {nd wk sk bx byy fi la li ra pa ht yt yc tp tt kx ky st sx sy sg : Int → Int} {hrs : Int} (hI : LI kn pn ld bu tl hou pr tk tol ex ey ehx ehy nd wk sk bx byy fi la li ra pa ht yt yc tp tt kx ky st sx sy sg) (c : soT hou hrs = 0) : LI kn pn ld bu tl (hou + hrs) pr tk tol ex ey ehx ehy nd wk (sinkF kn sk ld (hrs * (mx 0 (gt0 kn nd ld - pr) * gt0 kn wk ld / 50))) bx byy fi la li ra pa ht yt yc tp tt kx ky st sx sy sg := by
  obtain ⟨hkn, hpn, hld, hbu, htl, hhou, hpr, htk, htol, helx, hely, hhx, hhy, hb_nd, hb_wk, hb_bx, hb_byy, hb_tp, hb_tt, hb_yt, hb_ht, hb_yc, hb_fi, hb_la, hb_li, hb_ra, hb_pa, hb_st, hb_sx, hb_sy, hb_sg, hb_kx, hb_ky, hskh, hfl, hlk, hpa, hpz, hldk, hkx, hky, hft⟩ := hI
  have ha : (1 ≤ hrs ∧ hrs ≤ 100) ∧ hou + hrs ≤ 5000 := by unfold soT at c; omega
  have hf := fall_b (kn := kn) (ld := ld) hb_nd hb_wk hpr
  have hf0 : 0 ≤ hrs * (mx 0 (gt0 kn nd ld - pr) * gt0 kn wk ld / 50) := Int.mul_nonneg (by omega) (by omega)
  have hf1 : hrs * (mx 0 (gt0 kn nd ld - pr) * gt0 kn wk ld / 50) ≤ hrs * 40 := Int.mul_le_mul_of_nonneg_left (by omega) (by omega)
  exact ⟨hkn, hpn, hld, hbu, htl, (by first | assumption | omega), hpr, htk, htol, helx, hely, hhx, hhy, hb_nd, hb_wk, hb_bx, hb_byy, hb_tp, hb_tt, hb_yt, hb_ht, hb_yc, hb_fi, hb_la, hb_li, hb_ra, hb_pa, hb_st, hb_sx, hb_sy, hb_sg, hb_kx, hb_ky, (by
      intro j
      have h1 := hskh j
      rw [sinkF_at]
      omega), hfl, hlk, (by
      intro h h1 h2
      exact pay_mono (fun j => sinkF_le hf0 j) (hb_ra h).1 (hpa h h1 h2)), hpz, hldk, hkx, hky, hft⟩
theorem LI_lay {kn pn ld bu tl hou pr tk tol ex ey ehx ehy : Int} {nd wk sk bx byy fi la li ra pa ht yt yc tp tt kx ky st sx sy sg : Int → Int} {sta po : Int} (hI : LI kn pn ld bu tl hou pr tk tol ex ey ehx ehy nd wk sk bx byy fi la li ra pa ht yt yc tp tt kx ky st sx sy sg) (c : laT sta po (reaF kn ld (ht sta) (mx 0 (yc (sta * 12 + (ht sta - 1)) + 24 - hou)) (lastP ld tp) po tk (takF nd wk pr ld) (devF pn bx byy kx ky ld ehx ehy (yt (sta * 12 + (ht sta - 1))) po) tol) hou = 0) : LI kn pn (ld + 1) bu tl (hou + 2) pr (tk - takF nd wk pr ld) tol (lastF ld kx + (ehx + (yt (sta * 12 + (ht sta - 1))) * toSide po)) (lastF ld ky + (ehy + (yt (sta * 12 + (ht sta - 1))) * upward po)) (ehx + (yt (sta * 12 + (ht sta - 1))) * toSide po) (ehy + (yt (sta * 12 + (ht sta - 1))) * upward po) nd wk (sinkF kn (sinkF kn (sinkF kn sk ld (mx 0 (gt0 kn nd ld - pr) * gt0 kn wk ld / 10)) (ld - 1) ((mx 0 (gt0 kn nd ld - pr) * gt0 kn wk ld / 10) / 2)) (ld + 1) ((mx 0 (gt0 kn nd ld - pr) * gt0 kn wk ld / 10) / 2)) bx byy fi la li ra pa (up ht sta (ht sta - 1)) yt yc (up tp ld po) (up tt ld (yt (sta * 12 + (ht sta - 1)))) (up kx ld (lastF ld kx + (ehx + (yt (sta * 12 + (ht sta - 1))) * toSide po))) (up ky ld (lastF ld ky + (ehy + (yt (sta * 12 + (ht sta - 1))) * upward po))) st sx sy sg := by
  obtain ⟨hkn, hpn, hld, hbu, htl, hhou, hpr, htk, htol, helx, hely, hhx, hhy, hb_nd, hb_wk, hb_bx, hb_byy, hb_tp, hb_tt, hb_yt, hb_ht, hb_yc, hb_fi, hb_la, hb_li, hb_ra, hb_pa, hb_st, hb_sx, hb_sy, hb_sg, hb_kx, hb_ky, hskh, hfl, hlk, hpa, hpz, hldk, hkx, hky, hft⟩ := hI
  obtain ⟨hsta, hpo, hre, hho⟩ := laT_0 c
  obtain ⟨r1, r2, r3, r4, r5, r6⟩ := reaF_45 hre
  have hs := hb_ht sta
  have hf := fall_b (kn := kn) (ld := ld) hb_nd hb_wk hpr
  have htak : 0 ≤ takF nd wk pr ld := by
    unfold takF
    have a1 := mx_r 0 (pr - nd ld - 20) rfl
    have a2 := hb_wk ld
    omega
  obtain ⟨f, hfe⟩ : ∃ z, z = (mx 0 (gt0 kn nd ld - pr) * gt0 kn wk ld / 10) := ⟨_, rfl⟩
  have hfb : 0 ≤ f ∧ f ≤ 200 := by omega
  rw [← hfe]
  have hbt : bnd (up tt ld (yt (sta * 12 + (ht sta - 1)))) 0 9 := bnd_up hb_tt (hb_yt _).1 (hb_yt _).2
  have hsk : ∀ j : Int, sk j ≤ sinkF kn (sinkF kn (sinkF kn sk ld f) (ld - 1) (f / 2)) (ld + 1) (f / 2) j := fun j => Int.le_trans (Int.le_trans (sinkF_le hfb.1 j) (sinkF_le (by omega) j)) (sinkF_le (by omega) j)
  have hvx : lastF ld kx + (ehx + (yt (sta * 12 + (ht sta - 1))) * toSide po) = lnO tt tp toSide ld + (lnH tt tp toSide ld + (yt (sta * 12 + (ht sta - 1))) * toSide po) := by rw [lastF_line hld.1 hkx, hhx]
  have hvy : lastF ld ky + (ehy + (yt (sta * 12 + (ht sta - 1))) * upward po) = lnO tt tp upward ld + (lnH tt tp upward ld + (yt (sta * 12 + (ht sta - 1))) * upward po) := by rw [lastF_line hld.1 hky, hhy]
  have hbx := lnO_b (tp := up tp ld po) hbt toSide_r (n := ld + 1) (by omega) (by omega)
  have hby := lnO_b (tp := up tp ld po) hbt upward_r (n := ld + 1) (by omega) (by omega)
  rw [lnO_new hld.1, ← hvx] at hbx
  rw [lnO_new hld.1, ← hvy] at hby
  exact ⟨hkn, hpn, (by first | assumption | omega), hbu, htl, (by first | assumption | omega), hpr, (by first | assumption | omega), htol, (by
      exact lastF_new hld.1), (by
      exact lastF_new hld.1), (by
      rw [lnH_new hld.1, hhx]), (by
      rw [lnH_new hld.1, hhy]), hb_nd, hb_wk, hb_bx, hb_byy, (by
      exact bnd_up hb_tp (by omega) (by omega)), (by
      exact hbt), hb_yt, (by
      exact bnd_up hb_ht (by omega) (by omega)), hb_yc, hb_fi, hb_la, hb_li, hb_ra, hb_pa, hb_st, hb_sx, hb_sy, hb_sg, (by
      exact bnd_up hb_kx (by omega) (by omega)), (by
      exact bnd_up hb_ky (by omega) (by omega)), (by
      exact bnd_lay hskh hfb), hfl, hlk, (by
      intro h h1 h2
      exact pay_mono hsk (hb_ra h).1 (hpa h h1 h2)), hpz, (by first | assumption | omega), (by
      exact kx_new hld.1 hkx hvx), (by
      exact kx_new hld.1 hky hvy), (by
      exact fit_new hld.1 hft r4)⟩
theorem LI_writeRings {kn pn ld bu tl hou pr tk tol ex ey ehx ehy : Int} {nd wk sk bx byy fi la li ra pa ht yt yc tp tt kx ky st sx sy sg : Int → Int} {rg : Int} (hI : LI kn pn ld bu tl hou pr tk tol ex ey ehx ehy nd wk sk bx byy fi la li ra pa ht yt yc tp tt kx ky st sx sy sg) (c : rgT ld rg = 0) : LI kn pn ld bu (wrL (mn ld (rg + 10) - rg)) hou pr tk tol ex ey ehx ehy nd wk sk bx byy fi la li ra pa ht yt yc tp tt kx ky st sx sy (wrI tp tt sg rg (mn ld (rg + 10) - rg)) := by
  obtain ⟨hkn, hpn, hld, hbu, htl, hhou, hpr, htk, htol, helx, hely, hhx, hhy, hb_nd, hb_wk, hb_bx, hb_byy, hb_tp, hb_tt, hb_yt, hb_ht, hb_yc, hb_fi, hb_la, hb_li, hb_ra, hb_pa, hb_st, hb_sx, hb_sy, hb_sg, hb_kx, hb_ky, hskh, hfl, hlk, hpa, hpz, hldk, hkx, hky, hft⟩ := hI
  have ha : 0 ≤ rg ∧ rg < ld := by unfold rgT at c; omega
  have hm := mn_r ld (rg + 10) rfl
  exact ⟨hkn, hpn, hld, hbu, (by
      unfold wrL
      omega), hhou, hpr, htk, htol, helx, hely, hhx, hhy, hb_nd, hb_wk, hb_bx, hb_byy, hb_tp, hb_tt, hb_yt, hb_ht, hb_yc, hb_fi, hb_la, hb_li, hb_ra, hb_pa, hb_st, hb_sx, hb_sy, (by
      exact wrN_b hb_tp hb_tt hb_sg _ _), hb_kx, hb_ky, hskh, hfl, hlk, hpa, hpz, hldk, hkx, hky, hft⟩
theorem bz {lo hi : Int} (h1 : lo ≤ 0) (h2 : 0 ≤ hi) : bnd (fun _ => 0) lo hi := fun _ => ⟨h1, h2⟩
theorem LI_init : LI 0 0 0 0 0 0 50 0 100 0 0 0 0 (fun _ => 0) (fun _ => 0) (fun _ => 0) (fun _ => 0) (fun _ => 0) (fun _ => 0) (fun _ => 0) (fun _ => 0) (fun _ => 0) (fun _ => 0) (fun _ => 0) (fun _ => 0) (fun _ => 0) (fun _ => 0) (fun _ => 0) (fun _ => 0) (fun _ => 0) (fun _ => 0) (fun _ => 0) (fun _ => 0) (fun _ => 0) := ⟨by omega, by omega, by omega, by omega, by omega, by omega, by omega, by omega, by omega, rfl, rfl, rfl, rfl, bz (by omega) (by omega), bz (by omega) (by omega), bz (by omega) (by omega), bz (by omega) (by omega), bz (by omega) (by omega), bz (by omega) (by omega), bz (by omega) (by omega), bz (by omega) (by omega), bz (by omega) (by omega), bz (by omega) (by omega), bz (by omega) (by omega), bz (by omega) (by omega), bz (by omega) (by omega), bz (by omega) (by omega), bz (by omega) (by omega), bz (by omega) (by omega), bz (by omega) (by omega), bz (by omega) (by omega), bz (by omega) (by omega), bz (by omega) (by omega), bz (by omega) (by omega), fun _ h1 h2 => absurd h1 (by omega), fun _ h1 h2 => absurd h1 (by omega), fun _ h1 h2 => absurd h1 (by omega), fun _ _ => rfl, by omega, fun _ h1 h2 => absurd h1 (by omega), fun _ h1 h2 => absurd h1 (by omega), fun _ h1 h2 => absurd h1 (by omega)⟩
