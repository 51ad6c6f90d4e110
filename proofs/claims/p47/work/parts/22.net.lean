/-! The law's own row of numbers: what stands where, how each deed keeps it. -/
/-- the same but where the law keeps what nobody asks for: sinkings, houses -/
def agr (P Q : Int → Int) : Prop := ∀ j : Int, (0 ≤ j ∧ j < 820) ∨ (1020 ≤ j ∧ j < 1900) → P j = Q j
theorem agr_r (P : Int → Int) : agr P P := fun _ _ => rfl
def NI (F : Int → Int) (kn pn ld bu hou pr tk tol : Int) (nd wk bx byy ht yt yc tp tt kx ky : Int → Int) : Prop :=
  (F 0 = kn ∧ F 1 = pn ∧ F 2 = ld ∧ F 3 = bu ∧ F 4 = hou ∧ F 5 = pr ∧ F 6 = tk ∧ F 7 = tol) ∧ (∀ i : Int, 0 ≤ i → i < 3 → F (10 + i) = ht i) ∧ (∀ i : Int, 0 ≤ i → i < kn → F (20 + i) = nd i) ∧ (∀ i : Int, 0 ≤ i → i < kn → F (220 + i) = wk i) ∧
  (∀ i : Int, 0 ≤ i → i < pn → F (420 + i) = bx i) ∧ (∀ i : Int, 0 ≤ i → i < pn → F (620 + i) = byy i) ∧ (∀ i : Int, 0 ≤ i → i < ld → F (1020 + i) = tp i) ∧ (∀ i : Int, 0 ≤ i → i < ld → F (1220 + i) = tt i) ∧ (∀ i : Int, 0 ≤ i → i < ld → F (1420 + i) = kx i) ∧ (∀ i : Int, 0 ≤ i → i < ld → F (1620 + i) = ky i) ∧
  (∀ t k : Int, 0 ≤ t → t < 3 → 0 ≤ k → k < ht t → F (1820 + 24 * t + 2 * k) = yt (t * 12 + k) ∧ F (1821 + 24 * t + 2 * k) = yc (t * 12 + k))
theorem NI_to {F' : Int → Int} {F : Int → Int} {kn pn ld bu hou pr tk tol : Int} {nd wk bx byy ht yt yc tp tt kx ky : Int → Int} (hA : agr F' F) (h : NI F kn pn ld bu hou pr tk tol nd wk bx byy ht yt yc tp tt kx ky) (hkn : 0 ≤ kn ∧ kn ≤ 200) (hpn : 0 ≤ pn ∧ pn ≤ 200) (hld : 0 ≤ ld ∧ ld ≤ 200) (hb_ht : bnd ht 0 12) : NI F' kn pn ld bu hou pr tk tol nd wk bx byy ht yt yc tp tt kx ky := by
  obtain ⟨⟨a0, a1, a2, a3, a4, a5, a6, a7⟩, h1, h2, h3, h4, h5, h6, h7, h8, h9, h10⟩ := h
  refine ⟨⟨?_, ?_, ?_, ?_, ?_, ?_, ?_, ?_⟩, fun i u v => ?_, fun i u v => ?_, fun i u v => ?_, fun i u v => ?_, fun i u v => ?_, fun i u v => ?_, fun i u v => ?_, fun i u v => ?_, fun i u v => ?_, fun t k u v w z => ?_⟩
  · rw [hA _ (by omega)]; exact a0
  · rw [hA _ (by omega)]; exact a1
  · rw [hA _ (by omega)]; exact a2
  · rw [hA _ (by omega)]; exact a3
  · rw [hA _ (by omega)]; exact a4
  · rw [hA _ (by omega)]; exact a5
  · rw [hA _ (by omega)]; exact a6
  · rw [hA _ (by omega)]; exact a7
  · rw [hA _ (by omega)]; exact h1 i u v
  · rw [hA _ (by omega)]; exact h2 i u v
  · rw [hA _ (by omega)]; exact h3 i u v
  · rw [hA _ (by omega)]; exact h4 i u v
  · rw [hA _ (by omega)]; exact h5 i u v
  · rw [hA _ (by omega)]; exact h6 i u v
  · rw [hA _ (by omega)]; exact h7 i u v
  · rw [hA _ (by omega)]; exact h8 i u v
  · rw [hA _ (by omega)]; exact h9 i u v
  · have q := hb_ht t
    rw [hA _ (by omega), hA _ (by omega)]; exact h10 t k u v w z
/-- what a deed writes -/
def grF (F : Int → Int) (kn k nn nw : Int) : Int → Int := fun j => if j = 0 then kn + k else if 20 + kn ≤ j ∧ j < 20 + kn + k then nn else if 220 + kn ≤ j ∧ j < 220 + kn + k then nw else F j
def crF (F : Int → Int) (pn k nx ny : Int) : Int → Int := fun j => if j = 1 then pn + k else if 420 + pn ≤ j ∧ j < 420 + pn + k then nx else if 620 + pn ≤ j ∧ j < 620 + pn + k then ny else F j
def csF (F : Int → Int) (sta h hou ta : Int) : Int → Int := fun j => if j = 10 + sta then h + 1 else if j = 1820 + 24 * sta + 2 * h then ta else if j = 1821 + 24 * sta + 2 * h then hou else F j
def rkF (F : Int → Int) (sta stb h1 h3 ta ca : Int) : Int → Int := fun j => if j = 10 + stb then h3 + 1 else if j = 10 + sta then h1 - 1 else if j = 1820 + 24 * stb + 2 * h3 then ta else if j = 1821 + 24 * stb + 2 * h3 then ca else F j
def laF (F : Int → Int) (ld sta h hou tk po ta x y : Int) : Int → Int := fun j => if j = 2 then ld + 1 else if j = 4 then hou + 2 else if j = 6 then tk else if j = 10 + sta then h - 1 else if j = 1020 + ld then po else if j = 1220 + ld then ta else if j = 1420 + ld then x else if j = 1620 + ld then y else F j
set_option maxHeartbeats 1000000 in
theorem NI_addGround {F : Int → Int} {kn pn ld bu hou pr tk tol : Int} {nd wk bx byy ht yt yc tp tt kx ky : Int → Int} {rgs nn nw : Int} (hN : NI F kn pn ld bu hou pr tk tol nd wk bx byy ht yt yc tp tt kx ky) (hkn : 0 ≤ kn ∧ kn ≤ 200) (hpn : 0 ≤ pn ∧ pn ≤ 200) (hld : 0 ≤ ld ∧ ld ≤ 200) (hb_ht : bnd ht 0 12) (ha : 1 ≤ rgs ∧ kn + rgs ≤ 200) : NI (grF F kn rgs nn nw) (kn + rgs) pn ld bu hou pr tk tol (fil nd kn (kn + rgs) nn) (fil wk kn (kn + rgs) nw) bx byy ht yt yc tp tt kx ky := by
  obtain ⟨⟨a0, a1, a2, a3, a4, a5, a6, a7⟩, h1, h2, h3, h4, h5, h6, h7, h8, h9, h10⟩ := hN
  refine ⟨⟨?_, ?_, ?_, ?_, ?_, ?_, ?_, ?_⟩, fun i u v => ?_, fun i u v => ?_, fun i u v => ?_, fun i u v => ?_, fun i u v => ?_, fun i u v => ?_, fun i u v => ?_, fun i u v => ?_, fun i u v => ?_, fun t k u v w z => ?_⟩
  · simp only [grF, fil, ↓reduceIte]; try omega
  · simp only [grF, fil, ↓reduceIte]; try omega
  · simp only [grF, fil, ↓reduceIte]; try omega
  · simp only [grF, fil, ↓reduceIte]; try omega
  · simp only [grF, fil, ↓reduceIte]; try omega
  · simp only [grF, fil, ↓reduceIte]; try omega
  · simp only [grF, fil, ↓reduceIte]; try omega
  · simp only [grF, fil, ↓reduceIte]; try omega
  · have q := h1 i u; simp only [grF, fil, ↓reduceIte]; try omega
  · have q := h2 i u; simp only [grF, fil, ↓reduceIte]; try omega
  · have q := h3 i u; simp only [grF, fil, ↓reduceIte]; try omega
  · have q := h4 i u; simp only [grF, fil, ↓reduceIte]; try omega
  · have q := h5 i u; simp only [grF, fil, ↓reduceIte]; try omega
  · have q := h6 i u; simp only [grF, fil, ↓reduceIte]; try omega
  · have q := h7 i u; simp only [grF, fil, ↓reduceIte]; try omega
  · have q := h8 i u; simp only [grF, fil, ↓reduceIte]; try omega
  · have q := h9 i u; simp only [grF, fil, ↓reduceIte]; try omega
  · have q := h10 t k u v w; have q2 := hb_ht t; simp only [grF, fil, ↓reduceIte]; try omega
set_option maxHeartbeats 1000000 in
theorem NI_addCurve {F : Int → Int} {kn pn ld bu hou pr tk tol : Int} {nd wk bx byy ht yt yc tp tt kx ky : Int → Int} {rgs nx ny : Int} (hN : NI F kn pn ld bu hou pr tk tol nd wk bx byy ht yt yc tp tt kx ky) (hkn : 0 ≤ kn ∧ kn ≤ 200) (hpn : 0 ≤ pn ∧ pn ≤ 200) (hld : 0 ≤ ld ∧ ld ≤ 200) (hb_ht : bnd ht 0 12) (ha : 1 ≤ rgs ∧ pn + rgs ≤ 200) : NI (crF F pn rgs nx ny) kn (pn + rgs) ld bu hou pr tk tol nd wk (fil bx pn (pn + rgs) nx) (fil byy pn (pn + rgs) ny) ht yt yc tp tt kx ky := by
  obtain ⟨⟨a0, a1, a2, a3, a4, a5, a6, a7⟩, h1, h2, h3, h4, h5, h6, h7, h8, h9, h10⟩ := hN
  refine ⟨⟨?_, ?_, ?_, ?_, ?_, ?_, ?_, ?_⟩, fun i u v => ?_, fun i u v => ?_, fun i u v => ?_, fun i u v => ?_, fun i u v => ?_, fun i u v => ?_, fun i u v => ?_, fun i u v => ?_, fun i u v => ?_, fun t k u v w z => ?_⟩
  · simp only [crF, fil, ↓reduceIte]; try omega
  · simp only [crF, fil, ↓reduceIte]; try omega
  · simp only [crF, fil, ↓reduceIte]; try omega
  · simp only [crF, fil, ↓reduceIte]; try omega
  · simp only [crF, fil, ↓reduceIte]; try omega
  · simp only [crF, fil, ↓reduceIte]; try omega
  · simp only [crF, fil, ↓reduceIte]; try omega
  · simp only [crF, fil, ↓reduceIte]; try omega
  · have q := h1 i u; simp only [crF, fil, ↓reduceIte]; try omega
  · have q := h2 i u; simp only [crF, fil, ↓reduceIte]; try omega
  · have q := h3 i u; simp only [crF, fil, ↓reduceIte]; try omega
  · have q := h4 i u; simp only [crF, fil, ↓reduceIte]; try omega
  · have q := h5 i u; simp only [crF, fil, ↓reduceIte]; try omega
  · have q := h6 i u; simp only [crF, fil, ↓reduceIte]; try omega
  · have q := h7 i u; simp only [crF, fil, ↓reduceIte]; try omega
  · have q := h8 i u; simp only [crF, fil, ↓reduceIte]; try omega
  · have q := h9 i u; simp only [crF, fil, ↓reduceIte]; try omega
  · have q := h10 t k u v w; have q2 := hb_ht t; simp only [crF, fil, ↓reduceIte]; try omega
set_option maxHeartbeats 1000000 in
theorem NI_cast {F : Int → Int} {kn pn ld bu hou pr tk tol : Int} {nd wk bx byy ht yt yc tp tt kx ky : Int → Int} {sta ta : Int} (hN : NI F kn pn ld bu hou pr tk tol nd wk bx byy ht yt yc tp tt kx ky) (hkn : 0 ≤ kn ∧ kn ≤ 200) (hpn : 0 ≤ pn ∧ pn ≤ 200) (hld : 0 ≤ ld ∧ ld ≤ 200) (hb_ht : bnd ht 0 12) (ha : (0 ≤ sta ∧ sta ≤ 2) ∧ ht sta < 12) : NI (csF F sta (ht sta) hou ta) kn pn ld bu hou pr tk tol nd wk bx byy (up ht sta (ht sta + 1)) (up yt (sta * 12 + ht sta) ta) (up yc (sta * 12 + ht sta) hou) tp tt kx ky := by
  obtain ⟨⟨a0, a1, a2, a3, a4, a5, a6, a7⟩, h1, h2, h3, h4, h5, h6, h7, h8, h9, h10⟩ := hN
  have hbs := hb_ht sta
  refine ⟨⟨?_, ?_, ?_, ?_, ?_, ?_, ?_, ?_⟩, fun i u v => ?_, fun i u v => ?_, fun i u v => ?_, fun i u v => ?_, fun i u v => ?_, fun i u v => ?_, fun i u v => ?_, fun i u v => ?_, fun i u v => ?_, fun t k u v w z => ?_⟩
  · simp only [csF, up, ↓reduceIte]; try omega
  · simp only [csF, up, ↓reduceIte]; try omega
  · simp only [csF, up, ↓reduceIte]; try omega
  · simp only [csF, up, ↓reduceIte]; try omega
  · simp only [csF, up, ↓reduceIte]; try omega
  · simp only [csF, up, ↓reduceIte]; try omega
  · simp only [csF, up, ↓reduceIte]; try omega
  · simp only [csF, up, ↓reduceIte]; try omega
  · by_cases q0 : i = sta
    · subst q0; simp only [csF, up, ↓reduceIte]; try omega
    · have q := h1 i u v; simp only [csF, up, if_neg q0]; try omega
  · have q := h2 i u; simp only [csF, up, ↓reduceIte]; try omega
  · have q := h3 i u; simp only [csF, up, ↓reduceIte]; try omega
  · have q := h4 i u; simp only [csF, up, ↓reduceIte]; try omega
  · have q := h5 i u; simp only [csF, up, ↓reduceIte]; try omega
  · have q := h6 i u; simp only [csF, up, ↓reduceIte]; try omega
  · have q := h7 i u; simp only [csF, up, ↓reduceIte]; try omega
  · have q := h8 i u; simp only [csF, up, ↓reduceIte]; try omega
  · have q := h9 i u; simp only [csF, up, ↓reduceIte]; try omega
  · by_cases q0 : t = sta
    · subst q0
      have q := h10 t k (by omega) (by omega) w; have q2 := hb_ht t; simp only [csF, up, ↓reduceIte] at z ⊢; omega
    · have q := h10 t k u v w; have q2 := hb_ht t; have q3 := hb_ht sta; simp only [csF, up, if_neg q0] at z ⊢; omega
set_option maxHeartbeats 1000000 in
theorem NI_setPressure {F : Int → Int} {kn pn ld bu hou pr tk tol : Int} {nd wk bx byy ht yt yc tp tt kx ky : Int → Int} {pre : Int} (hN : NI F kn pn ld bu hou pr tk tol nd wk bx byy ht yt yc tp tt kx ky) (hkn : 0 ≤ kn ∧ kn ≤ 200) (hpn : 0 ≤ pn ∧ pn ≤ 200) (hld : 0 ≤ ld ∧ ld ≤ 200) (hb_ht : bnd ht 0 12)  : NI (up F 5 pre) kn pn ld bu hou pre tk tol nd wk bx byy ht yt yc tp tt kx ky := by
  obtain ⟨⟨a0, a1, a2, a3, a4, a5, a6, a7⟩, h1, h2, h3, h4, h5, h6, h7, h8, h9, h10⟩ := hN
  refine ⟨⟨?_, ?_, ?_, ?_, ?_, ?_, ?_, ?_⟩, fun i u v => ?_, fun i u v => ?_, fun i u v => ?_, fun i u v => ?_, fun i u v => ?_, fun i u v => ?_, fun i u v => ?_, fun i u v => ?_, fun i u v => ?_, fun t k u v w z => ?_⟩
  · simp only [up, ↓reduceIte]; try omega
  · simp only [up, ↓reduceIte]; try omega
  · simp only [up, ↓reduceIte]; try omega
  · simp only [up, ↓reduceIte]; try omega
  · simp only [up, ↓reduceIte]; try omega
  · simp only [up, ↓reduceIte]; try omega
  · simp only [up, ↓reduceIte]; try omega
  · simp only [up, ↓reduceIte]; try omega
  · have q := h1 i u; simp only [up, ↓reduceIte]; try omega
  · have q := h2 i u; simp only [up, ↓reduceIte]; try omega
  · have q := h3 i u; simp only [up, ↓reduceIte]; try omega
  · have q := h4 i u; simp only [up, ↓reduceIte]; try omega
  · have q := h5 i u; simp only [up, ↓reduceIte]; try omega
  · have q := h6 i u; simp only [up, ↓reduceIte]; try omega
  · have q := h7 i u; simp only [up, ↓reduceIte]; try omega
  · have q := h8 i u; simp only [up, ↓reduceIte]; try omega
  · have q := h9 i u; simp only [up, ↓reduceIte]; try omega
  · have q := h10 t k u v w; have q2 := hb_ht t; simp only [up, ↓reduceIte]; try omega
set_option maxHeartbeats 1000000 in
theorem NI_setTolerance {F : Int → Int} {kn pn ld bu hou pr tk tol : Int} {nd wk bx byy ht yt yc tp tt kx ky : Int → Int} {nto : Int} (hN : NI F kn pn ld bu hou pr tk tol nd wk bx byy ht yt yc tp tt kx ky) (hkn : 0 ≤ kn ∧ kn ≤ 200) (hpn : 0 ≤ pn ∧ pn ≤ 200) (hld : 0 ≤ ld ∧ ld ≤ 200) (hb_ht : bnd ht 0 12)  : NI (up F 7 nto) kn pn ld bu hou pr tk nto nd wk bx byy ht yt yc tp tt kx ky := by
  obtain ⟨⟨a0, a1, a2, a3, a4, a5, a6, a7⟩, h1, h2, h3, h4, h5, h6, h7, h8, h9, h10⟩ := hN
  refine ⟨⟨?_, ?_, ?_, ?_, ?_, ?_, ?_, ?_⟩, fun i u v => ?_, fun i u v => ?_, fun i u v => ?_, fun i u v => ?_, fun i u v => ?_, fun i u v => ?_, fun i u v => ?_, fun i u v => ?_, fun i u v => ?_, fun t k u v w z => ?_⟩
  · simp only [up, ↓reduceIte]; try omega
  · simp only [up, ↓reduceIte]; try omega
  · simp only [up, ↓reduceIte]; try omega
  · simp only [up, ↓reduceIte]; try omega
  · simp only [up, ↓reduceIte]; try omega
  · simp only [up, ↓reduceIte]; try omega
  · simp only [up, ↓reduceIte]; try omega
  · simp only [up, ↓reduceIte]; try omega
  · have q := h1 i u; simp only [up, ↓reduceIte]; try omega
  · have q := h2 i u; simp only [up, ↓reduceIte]; try omega
  · have q := h3 i u; simp only [up, ↓reduceIte]; try omega
  · have q := h4 i u; simp only [up, ↓reduceIte]; try omega
  · have q := h5 i u; simp only [up, ↓reduceIte]; try omega
  · have q := h6 i u; simp only [up, ↓reduceIte]; try omega
  · have q := h7 i u; simp only [up, ↓reduceIte]; try omega
  · have q := h8 i u; simp only [up, ↓reduceIte]; try omega
  · have q := h9 i u; simp only [up, ↓reduceIte]; try omega
  · have q := h10 t k u v w; have q2 := hb_ht t; simp only [up, ↓reduceIte]; try omega
set_option maxHeartbeats 1000000 in
theorem NI_addSlurry {F : Int → Int} {kn pn ld bu hou pr tk tol : Int} {nd wk bx byy ht yt yc tp tt kx ky : Int → Int} {vo : Int} (hN : NI F kn pn ld bu hou pr tk tol nd wk bx byy ht yt yc tp tt kx ky) (hkn : 0 ≤ kn ∧ kn ≤ 200) (hpn : 0 ≤ pn ∧ pn ≤ 200) (hld : 0 ≤ ld ∧ ld ≤ 200) (hb_ht : bnd ht 0 12)  : NI (up F 6 vo) kn pn ld bu hou pr vo tol nd wk bx byy ht yt yc tp tt kx ky := by
  obtain ⟨⟨a0, a1, a2, a3, a4, a5, a6, a7⟩, h1, h2, h3, h4, h5, h6, h7, h8, h9, h10⟩ := hN
  refine ⟨⟨?_, ?_, ?_, ?_, ?_, ?_, ?_, ?_⟩, fun i u v => ?_, fun i u v => ?_, fun i u v => ?_, fun i u v => ?_, fun i u v => ?_, fun i u v => ?_, fun i u v => ?_, fun i u v => ?_, fun i u v => ?_, fun t k u v w z => ?_⟩
  · simp only [up, ↓reduceIte]; try omega
  · simp only [up, ↓reduceIte]; try omega
  · simp only [up, ↓reduceIte]; try omega
  · simp only [up, ↓reduceIte]; try omega
  · simp only [up, ↓reduceIte]; try omega
  · simp only [up, ↓reduceIte]; try omega
  · simp only [up, ↓reduceIte]; try omega
  · simp only [up, ↓reduceIte]; try omega
  · have q := h1 i u; simp only [up, ↓reduceIte]; try omega
  · have q := h2 i u; simp only [up, ↓reduceIte]; try omega
  · have q := h3 i u; simp only [up, ↓reduceIte]; try omega
  · have q := h4 i u; simp only [up, ↓reduceIte]; try omega
  · have q := h5 i u; simp only [up, ↓reduceIte]; try omega
  · have q := h6 i u; simp only [up, ↓reduceIte]; try omega
  · have q := h7 i u; simp only [up, ↓reduceIte]; try omega
  · have q := h8 i u; simp only [up, ↓reduceIte]; try omega
  · have q := h9 i u; simp only [up, ↓reduceIte]; try omega
  · have q := h10 t k u v w; have q2 := hb_ht t; simp only [up, ↓reduceIte]; try omega
set_option maxHeartbeats 1000000 in
theorem NI_stop {F : Int → Int} {kn pn ld bu hou pr tk tol : Int} {nd wk bx byy ht yt yc tp tt kx ky : Int → Int} {ho : Int} (hN : NI F kn pn ld bu hou pr tk tol nd wk bx byy ht yt yc tp tt kx ky) (hkn : 0 ≤ kn ∧ kn ≤ 200) (hpn : 0 ≤ pn ∧ pn ≤ 200) (hld : 0 ≤ ld ∧ ld ≤ 200) (hb_ht : bnd ht 0 12)  : NI (up F 4 ho) kn pn ld bu ho pr tk tol nd wk bx byy ht yt yc tp tt kx ky := by
  obtain ⟨⟨a0, a1, a2, a3, a4, a5, a6, a7⟩, h1, h2, h3, h4, h5, h6, h7, h8, h9, h10⟩ := hN
  refine ⟨⟨?_, ?_, ?_, ?_, ?_, ?_, ?_, ?_⟩, fun i u v => ?_, fun i u v => ?_, fun i u v => ?_, fun i u v => ?_, fun i u v => ?_, fun i u v => ?_, fun i u v => ?_, fun i u v => ?_, fun i u v => ?_, fun t k u v w z => ?_⟩
  · simp only [up, ↓reduceIte]; try omega
  · simp only [up, ↓reduceIte]; try omega
  · simp only [up, ↓reduceIte]; try omega
  · simp only [up, ↓reduceIte]; try omega
  · simp only [up, ↓reduceIte]; try omega
  · simp only [up, ↓reduceIte]; try omega
  · simp only [up, ↓reduceIte]; try omega
  · simp only [up, ↓reduceIte]; try omega
  · have q := h1 i u; simp only [up, ↓reduceIte]; try omega
  · have q := h2 i u; simp only [up, ↓reduceIte]; try omega
  · have q := h3 i u; simp only [up, ↓reduceIte]; try omega
  · have q := h4 i u; simp only [up, ↓reduceIte]; try omega
  · have q := h5 i u; simp only [up, ↓reduceIte]; try omega
  · have q := h6 i u; simp only [up, ↓reduceIte]; try omega
  · have q := h7 i u; simp only [up, ↓reduceIte]; try omega
  · have q := h8 i u; simp only [up, ↓reduceIte]; try omega
  · have q := h9 i u; simp only [up, ↓reduceIte]; try omega
  · have q := h10 t k u v w; have q2 := hb_ht t; simp only [up, ↓reduceIte]; try omega
set_option maxHeartbeats 1000000 in
theorem NI_addHouse {F : Int → Int} {kn pn ld bu hou pr tk tol : Int} {nd wk bx byy ht yt yc tp tt kx ky : Int → Int}  (hN : NI F kn pn ld bu hou pr tk tol nd wk bx byy ht yt yc tp tt kx ky) (hkn : 0 ≤ kn ∧ kn ≤ 200) (hpn : 0 ≤ pn ∧ pn ≤ 200) (hld : 0 ≤ ld ∧ ld ≤ 200) (hb_ht : bnd ht 0 12)  : NI (up F 3 (bu + 1)) kn pn ld (bu + 1) hou pr tk tol nd wk bx byy ht yt yc tp tt kx ky := by
  obtain ⟨⟨a0, a1, a2, a3, a4, a5, a6, a7⟩, h1, h2, h3, h4, h5, h6, h7, h8, h9, h10⟩ := hN
  refine ⟨⟨?_, ?_, ?_, ?_, ?_, ?_, ?_, ?_⟩, fun i u v => ?_, fun i u v => ?_, fun i u v => ?_, fun i u v => ?_, fun i u v => ?_, fun i u v => ?_, fun i u v => ?_, fun i u v => ?_, fun i u v => ?_, fun t k u v w z => ?_⟩
  · simp only [up, ↓reduceIte]; try omega
  · simp only [up, ↓reduceIte]; try omega
  · simp only [up, ↓reduceIte]; try omega
  · simp only [up, ↓reduceIte]; try omega
  · simp only [up, ↓reduceIte]; try omega
  · simp only [up, ↓reduceIte]; try omega
  · simp only [up, ↓reduceIte]; try omega
  · simp only [up, ↓reduceIte]; try omega
  · have q := h1 i u; simp only [up, ↓reduceIte]; try omega
  · have q := h2 i u; simp only [up, ↓reduceIte]; try omega
  · have q := h3 i u; simp only [up, ↓reduceIte]; try omega
  · have q := h4 i u; simp only [up, ↓reduceIte]; try omega
  · have q := h5 i u; simp only [up, ↓reduceIte]; try omega
  · have q := h6 i u; simp only [up, ↓reduceIte]; try omega
  · have q := h7 i u; simp only [up, ↓reduceIte]; try omega
  · have q := h8 i u; simp only [up, ↓reduceIte]; try omega
  · have q := h9 i u; simp only [up, ↓reduceIte]; try omega
  · have q := h10 t k u v w; have q2 := hb_ht t; simp only [up, ↓reduceIte]; try omega
set_option maxHeartbeats 1000000 in
theorem NI_lay {F : Int → Int} {kn pn ld bu hou pr tk tol : Int} {nd wk bx byy ht yt yc tp tt kx ky : Int → Int} {sta po ta x y tk2 : Int} (hN : NI F kn pn ld bu hou pr tk tol nd wk bx byy ht yt yc tp tt kx ky) (hkn : 0 ≤ kn ∧ kn ≤ 200) (hpn : 0 ≤ pn ∧ pn ≤ 200) (hld : 0 ≤ ld ∧ ld ≤ 200) (hb_ht : bnd ht 0 12) (ha : (0 ≤ sta ∧ sta ≤ 2) ∧ 0 < ht sta ∧ ld < 200) : NI (laF F ld sta (ht sta) hou tk2 po ta x y) kn pn (ld + 1) bu (hou + 2) pr tk2 tol nd wk bx byy (up ht sta (ht sta - 1)) yt yc (up tp ld po) (up tt ld ta) (up kx ld x) (up ky ld y) := by
  obtain ⟨⟨a0, a1, a2, a3, a4, a5, a6, a7⟩, h1, h2, h3, h4, h5, h6, h7, h8, h9, h10⟩ := hN
  have hbs := hb_ht sta
  refine ⟨⟨?_, ?_, ?_, ?_, ?_, ?_, ?_, ?_⟩, fun i u v => ?_, fun i u v => ?_, fun i u v => ?_, fun i u v => ?_, fun i u v => ?_, fun i u v => ?_, fun i u v => ?_, fun i u v => ?_, fun i u v => ?_, fun t k u v w z => ?_⟩
  · simp only [laF, up, ↓reduceIte]; try omega
  · simp only [laF, up, ↓reduceIte]; try omega
  · simp only [laF, up, ↓reduceIte]; try omega
  · simp only [laF, up, ↓reduceIte]; try omega
  · simp only [laF, up, ↓reduceIte]; try omega
  · simp only [laF, up, ↓reduceIte]; try omega
  · simp only [laF, up, ↓reduceIte]; try omega
  · simp only [laF, up, ↓reduceIte]; try omega
  · by_cases q0 : i = sta
    · subst q0; simp only [laF, up, ↓reduceIte]; try omega
    · have q := h1 i u v; simp only [laF, up, if_neg q0]; try omega
  · have q := h2 i u; simp only [laF, up, ↓reduceIte]; try omega
  · have q := h3 i u; simp only [laF, up, ↓reduceIte]; try omega
  · have q := h4 i u; simp only [laF, up, ↓reduceIte]; try omega
  · have q := h5 i u; simp only [laF, up, ↓reduceIte]; try omega
  · have q := h6 i u; simp only [laF, up, ↓reduceIte]; try omega
  · have q := h7 i u; simp only [laF, up, ↓reduceIte]; try omega
  · have q := h8 i u; simp only [laF, up, ↓reduceIte]; try omega
  · have q := h9 i u; simp only [laF, up, ↓reduceIte]; try omega
  · by_cases q0 : t = sta
    · subst q0
      have q := h10 t k (by omega) (by omega) w; have q2 := hb_ht t; simp only [laF, up, ↓reduceIte] at z ⊢; omega
    · have q := h10 t k u v w; have q2 := hb_ht t; have q3 := hb_ht sta; simp only [laF, up, if_neg q0] at z ⊢; omega
set_option maxHeartbeats 1000000 in
theorem NI_restack {F : Int → Int} {kn pn ld bu hou pr tk tol : Int} {nd wk bx byy ht yt yc tp tt kx ky : Int → Int} {sta stb w3 : Int} (hN : NI F kn pn ld bu hou pr tk tol nd wk bx byy ht yt yc tp tt kx ky) (hkn : 0 ≤ kn ∧ kn ≤ 200) (hpn : 0 ≤ pn ∧ pn ≤ 200) (hld : 0 ≤ ld ∧ ld ≤ 200) (hb_ht : bnd ht 0 12) (ha : (0 ≤ sta ∧ sta ≤ 2) ∧ (0 ≤ stb ∧ stb ≤ 2) ∧ 0 < ht sta ∧ (sta = stb ∨ ht stb < 12)) (h3e : w3 = up ht sta (ht sta - 1) stb) : NI (rkF F sta stb (ht sta) w3 (yt (sta * 12 + ht sta - 1)) (yc (sta * 12 + ht sta - 1))) kn pn ld bu hou pr tk tol nd wk bx byy (rsH ht sta stb) (rsF ht yt sta stb) (rsF ht yc sta stb) tp tt kx ky := by
  obtain ⟨⟨a0, a1, a2, a3, a4, a5, a6, a7⟩, h1, h2, h3, h4, h5, h6, h7, h8, h9, h10⟩ := hN
  have hbs := hb_ht sta
  have hbt := hb_ht stb
  have h3f : w3 = if stb = sta then ht sta - 1 else ht stb := h3e
  have hh3 : 0 ≤ w3 ∧ w3 < 12 := by
    by_cases q : stb = sta
    · rw [if_pos q] at h3f; omega
    · rw [if_neg q] at h3f; omega
  have e1 : ∀ i : Int, rsH ht sta stb i = if i = stb then w3 + 1 else if i = sta then ht sta - 1 else ht i := fun i => by unfold rsH; rw [← h3e]; rfl
  have e2 : ∀ i : Int, rsF ht yt sta stb i = if i = stb * 12 + w3 then yt (sta * 12 + ht sta - 1) else yt i := fun i => by unfold rsF; rw [← h3e]; rfl
  have e3 : ∀ i : Int, rsF ht yc sta stb i = if i = stb * 12 + w3 then yc (sta * 12 + ht sta - 1) else yc i := fun i => by unfold rsF; rw [← h3e]; rfl
  refine ⟨⟨?_, ?_, ?_, ?_, ?_, ?_, ?_, ?_⟩, fun i u v => ?_, fun i u v => ?_, fun i u v => ?_, fun i u v => ?_, fun i u v => ?_, fun i u v => ?_, fun i u v => ?_, fun i u v => ?_, fun i u v => ?_, fun t k u v w z => ?_⟩
  · simp only [rkF, ↓reduceIte]; try omega
  · simp only [rkF, ↓reduceIte]; try omega
  · simp only [rkF, ↓reduceIte]; try omega
  · simp only [rkF, ↓reduceIte]; try omega
  · simp only [rkF, ↓reduceIte]; try omega
  · simp only [rkF, ↓reduceIte]; try omega
  · simp only [rkF, ↓reduceIte]; try omega
  · simp only [rkF, ↓reduceIte]; try omega
  · have q := h1 i u v
    rw [e1]
    simp only [rkF]
    by_cases q1 : i = stb
    · subst q1; simp only [↓reduceIte]
    · by_cases q2 : i = sta
      · subst q2; simp only [↓reduceIte, if_neg q1]; omega
      · simp only [if_neg q1, if_neg q2]; omega
  · have q := h2 i u; simp only [rkF, ↓reduceIte]; try omega
  · have q := h3 i u; simp only [rkF, ↓reduceIte]; try omega
  · have q := h4 i u; simp only [rkF, ↓reduceIte]; try omega
  · have q := h5 i u; simp only [rkF, ↓reduceIte]; try omega
  · have q := h6 i u; simp only [rkF, ↓reduceIte]; try omega
  · have q := h7 i u; simp only [rkF, ↓reduceIte]; try omega
  · have q := h8 i u; simp only [rkF, ↓reduceIte]; try omega
  · have q := h9 i u; simp only [rkF, ↓reduceIte]; try omega
  · have q := h10 t k u v w
    have q4 := hb_ht t
    rw [e1] at z
    rw [e2, e3]
    simp only [rkF]
    by_cases q1 : t = stb
    · subst q1
      simp only [↓reduceIte] at z
      by_cases q5 : k = w3
      · subst q5; omega
      · by_cases q6 : t = sta
        · subst q6
          simp only [↓reduceIte] at h3f
          have q := q (by omega)
          omega
        · simp only [if_neg q6] at h3f
          have q := q (by omega)
          omega
    · simp only [if_neg q1] at z
      by_cases q2 : t = sta
      · subst q2
        simp only [↓reduceIte] at z
        have q := q (by omega)
        omega
      · simp only [if_neg q2] at z
        have q := q z
        omega
/-- sums of sums as weighted sums -/
theorem sumI_add (f h : Int → Int) (n : Nat) : sumI (fun k => f k + h k) (n : Int) = sumI f (n : Int) + sumI h (n : Int) := by
  induction n with
  | zero => rfl
  | succ k ih => rw [show ((k + 1 : Nat) : Int) = (k : Int) + 1 by omega, sumI_step _ (by omega), sumI_step _ (by omega), sumI_step _ (by omega), ih]; omega
theorem wsumN (a : Int → Int) (n : Nat) : sumI (fun j => sumI a (j + 1)) (n : Int) = sumI (fun k => ((n : Int) - k) * a k) (n : Int) := by
  induction n with
  | zero => rfl
  | succ k ih =>
    have e : sumI (fun j => (((k + 1 : Nat) : Int) - j) * a j) ((k + 1 : Nat) : Int) = sumI (fun j => ((k : Int) - j) * a j + a j) ((k + 1 : Nat) : Int) := sumI_ext (by omega) (fun j _ _ => by
      show (((k + 1 : Nat) : Int) - j) * a j = ((k : Int) - j) * a j + a j
      rw [show (((k + 1 : Nat) : Int) - j) = ((k : Int) - j) + 1 by omega, Int.add_mul, Int.one_mul])
    rw [e, sumI_add (fun j => ((k : Int) - j) * a j) a (k + 1), show ((k + 1 : Nat) : Int) = (k : Int) + 1 by omega, sumI_step _ (by omega), ih, sumI_step (fun j => ((k : Int) - j) * a j) (by omega), sumI_step a (by omega)]
    have z : ((k : Int) - (k : Int)) * a (k : Int) = 0 := by rw [Int.sub_self, Int.zero_mul]
    show _ = sumI (fun j => ((k : Int) - j) * a j) (k : Int) + ((k : Int) - (k : Int)) * a (k : Int) + _
    rw [z]
    omega
theorem wsum (a : Int → Int) {n : Int} (h : 0 ≤ n) : sumI (fun j => sumI a (j + 1)) n = sumI (fun k => (n - k) * a k) n := by
  obtain ⟨k, rfl⟩ := Int.eq_ofNat_of_zero_le h
  exact wsumN a k
theorem sumI_stop {f : Int → Int} {a n : Int} (h0 : 0 ≤ a) (h : a ≤ n) (hz : ∀ k : Int, a ≤ k → k < n → f k = 0) : sumI f n = sumI f a := by
  obtain ⟨k, hk⟩ := Int.eq_ofNat_of_zero_le (show 0 ≤ n - a by omega)
  rw [show n = a + (k : Int) by omega, sumI_app _ h0, sumI_ext (f := fun j => f (a + j)) (h := fun _ => 0) (by omega) (fun j h1 h2 => hz _ (by omega) (by omega)), sumI_zero]
  omega
/-- the planned offset as the law adds it up -/
theorem pl_sum {pn r a : Int} {F : Int → Int} (hr : 0 ≤ r) (ha : 0 ≤ a ∧ a ≤ r + 1) (h : a = r + 1 ∨ pn ≤ a) : sumI (fun k => (r - k + 1) * gt0 pn F k) a = plO pn F (r + 1) := by
  have e : plO pn F (r + 1) = sumI (fun k => (r + 1 - k) * gt0 pn F k) (r + 1) := wsum (gt0 pn F) (by omega)
  rw [e, sumI_ext (f := fun k => (r - k + 1) * gt0 pn F k) (h := fun k => (r + 1 - k) * gt0 pn F k) ha.1 (fun k _ _ => by
    show (r - k + 1) * gt0 pn F k = (r + 1 - k) * gt0 pn F k
    rw [show r - k + 1 = r + 1 - k by omega])]
  refine (sumI_stop ha.1 ha.2 (fun k h1 h2 => ?_)).symm
  show (r + 1 - k) * gt0 pn F k = 0
  rw [gt0_out (by omega), Int.mul_zero]
theorem ln_sum {tt tp S : Int → Int} {n : Int} (h : 0 ≤ n) : sumI (fun k => (n - k) * (tt k * S (tp k))) n = lnO tt tp S n := (wsum (fun k => tt k * S (tp k)) h).symm
/-- the row of the law's own sides -/
theorem side_row {po : Int} (h : 0 ≤ po ∧ po ≤ 7) : up (up (up (up (up (up (up (up (fun _ => 0) 0 0) 1 1) 2 1) 3 1) 4 0) 5 (-1)) 6 (-1)) 7 (-1) po = toSide po := by
  rcases (show po = 0 ∨ po = 1 ∨ po = 2 ∨ po = 3 ∨ po = 4 ∨ po = 5 ∨ po = 6 ∨ po = 7 by omega) with rfl | rfl | rfl | rfl | rfl | rfl | rfl | rfl <;> decide
theorem side_up {po : Int} (h : 0 ≤ po ∧ po ≤ 7) : toSide ((po + 2) % 8) = upward po := by
  rcases (show po = 0 ∨ po = 1 ∨ po = 2 ∨ po = 3 ∨ po = 4 ∨ po = 5 ∨ po = 6 ∨ po = 7 by omega) with rfl | rfl | rfl | rfl | rfl | rfl | rfl | rfl <;> decide
/-- the first k of the 1960 places -/
def cpF (F : Int → Int) (k : Int) : Int → Int := fun j => if 0 ≤ j ∧ j < k then F j else 0
theorem cpF_step {F : Int → Int} {k v : Int} (h : 0 ≤ k) (hv : v = F k) : up (cpF F k) k v = cpF F (k + 1) := by
  funext j
  unfold up cpF
  by_cases q : j = k
  · rw [if_pos q, if_pos (by omega), q, hv]
  · rw [if_neg q]
    by_cases z : 0 ≤ j ∧ j < k
    · rw [if_pos z, if_pos (by omega)]
    · rw [if_neg z, if_neg (by omega)]
