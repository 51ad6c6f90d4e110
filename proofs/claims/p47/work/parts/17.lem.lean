/-! the line that is followed ring by ring; the search -/
def lnH (tt tp : Int → Int) (S : Int → Int) (n : Int) : Int := sumI (fun k => tt k * S (tp k)) n
def lnO (tt tp : Int → Int) (S : Int → Int) (n : Int) : Int := sumI (fun k => lnH tt tp S (k + 1)) n
theorem lnH_step {tt tp S : Int → Int} {n : Int} (h : 0 ≤ n) : lnH tt tp S (n + 1) = lnH tt tp S n + tt n * S (tp n) := sumI_step _ h
theorem lnO_step {tt tp S : Int → Int} {n : Int} (h : 0 ≤ n) : lnO tt tp S (n + 1) = lnO tt tp S n + lnH tt tp S (n + 1) := sumI_step _ h
theorem lnH_b {tt tp S : Int → Int} (h1 : bnd tt 0 9) (h2 : ∀ i : Int, -1 ≤ S i ∧ S i ≤ 1) {n : Int} (h : 0 ≤ n) : -(n * 9) ≤ lnH tt tp S n ∧ lnH tt tp S n ≤ n * 9 := sumI_bb (fun k _ _ => by have := mulb (A := 9) (B := 1) (a := tt k) (b := S (tp k)) (by have := h1 k; omega) (h2 _); omega) h
theorem lnO_b {tt tp S : Int → Int} (h1 : bnd tt 0 9) (h2 : ∀ i : Int, -1 ≤ S i ∧ S i ≤ 1) {n : Int} (h : 0 ≤ n) (h3 : n ≤ 200) : -360000 ≤ lnO tt tp S n ∧ lnO tt tp S n ≤ 360000 := by
  have h4 := sumI_bb (f := fun k => lnH tt tp S (k + 1)) (B := 1800) (n := n) (fun k h4 h5 => by
    have := lnH_b (tp := tp) h1 h2 (n := k + 1) (by omega)
    show -1800 ≤ lnH tt tp S (k + 1) ∧ lnH tt tp S (k + 1) ≤ 1800
    omega) h
  unfold lnO
  omega
/-- the first n places of a row made anew -/
def ovr (F : Int → Int) (n : Int) (f : Int → Int) : Int → Int := fun k => if 0 ≤ k ∧ k < n then f k else F k
theorem ovr_0 (F f : Int → Int) : ovr F 0 f = F := by funext k; unfold ovr; rw [if_neg (by omega)]
theorem ovr_step {F f : Int → Int} {n v : Int} (h : 0 ≤ n) (hv : v = f n) : up (ovr F n f) n v = ovr F (n + 1) f := by
  funext k; unfold up ovr
  by_cases q : k = n
  · rw [if_pos q, if_pos (by omega), q, hv]
  · rw [if_neg q]; by_cases z : 0 ≤ k ∧ k < n
    · rw [if_pos z, if_pos (by omega)]
    · rw [if_neg z, if_neg (by omega)]
theorem bnd_ovr {F f : Int → Int} {n lo hi : Int} (h : bnd F lo hi) (h2 : ∀ k : Int, lo ≤ f k ∧ f k ≤ hi) : bnd (ovr F n f) lo hi := by
  intro k; unfold ovr; split
  · exact h2 k
  · exact h k
theorem ovr_at {F f : Int → Int} {n k : Int} (h : 0 ≤ k ∧ k < n) : ovr F n f k = f k := if_pos h
/-- the least deviation, by the gap between line and plan -/
def gaN (st sx sy : Int → Int) : Nat → Int → Int → Int → Int → Int → Int → Int
  | 0, _, _, qx, qy, _, _ => aI qx + aI qy
  | d + 1, k, be, qx, qy, qhx, qhy => lstI (fun p => gaN st sx sy d (k + 1) p (qx + (qhx + (st k * toSide p - sx k))) (qy + (qhy + (st k * upward p - sy k))) (qhx + (st k * toSide p - sx k)) (qhy + (st k * upward p - sy k))) (fun p => decide (fitP be p)) 8
theorem mn_assoc (a b c : Int) : mn (mn a b) c = mn a (mn b c) := by unfold mn; repeat' split <;> omega
theorem mn_max {a : Int} (h : a ≤ 2147483647) : mn a 2147483647 = a := by unfold mn; rw [if_neg (by omega)]
theorem mn_left {a b : Int} (h : a ≤ b) : mn a b = a := by unfold mn; rw [if_neg (by omega)]
theorem lstP_ge {f : Int → Int} {fit : Int → Bool} {b : Int} (hb : b ≤ 2147483647) : ∀ n : Nat, (∀ p : Int, 0 ≤ p → p < n → fit p = true → b ≤ f p) → b ≤ lstP f fit n
  | 0, _ => hb
  | n + 1, h => by
    have ih := lstP_ge (f := f) (fit := fit) hb n (fun p h1 h2 h3 => h p h1 (by omega) h3)
    show b ≤ (if fit (n : Int) then mn (lstP f fit n) (f (n : Int)) else lstP f fit n)
    split
    · rename_i hq
      have h2 := h (n : Int) (by omega) (by omega) hq
      have h3 := mn_r (lstP f fit n) (f (n : Int)) rfl
      omega
    · exact ih
theorem lstI_ge {f : Int → Int} {fit : Int → Bool} {b : Int} (hb : b ≤ 2147483647) (h : ∀ p : Int, 0 ≤ p → p ≤ 7 → fit p = true → b ≤ f p) : b ≤ lstI f fit 8 := lstP_ge hb 8 (fun p h1 h2 h3 => h p h1 (by omega) h3)
theorem lstP_congr {f g : Int → Int} {fit : Int → Bool} : ∀ n : Nat, (∀ p : Int, 0 ≤ p → p < n → f p = g p) → lstP f fit n = lstP g fit n
  | 0, _ => rfl
  | n + 1, h => by
    have ih := lstP_congr (f := f) (g := g) (fit := fit) n (fun p h1 h2 => h p h1 (by omega))
    show (if fit (n : Int) then mn (lstP f fit n) (f (n : Int)) else lstP f fit n) = (if fit (n : Int) then mn (lstP g fit n) (g (n : Int)) else lstP g fit n)
    rw [ih, h (n : Int) (by omega) (by omega)]
theorem lstI_congr {f g : Int → Int} {fit : Int → Bool} (h : ∀ p : Int, 0 ≤ p → p ≤ 7 → f p = g p) : lstI f fit 8 = lstI g fit 8 := lstP_congr 8 (fun p h1 h2 => h p h1 (by omega))
theorem gaN_nn (st sx sy : Int → Int) : ∀ (d : Nat) (k be qx qy qhx qhy : Int), 0 ≤ gaN st sx sy d k be qx qy qhx qhy
  | 0, k, be, qx, qy, qhx, qhy => by
    show 0 ≤ aI qx + aI qy
    have h1 := aI_r qx rfl
    have h2 := aI_r qy rfl
    omega
  | d + 1, k, be, qx, qy, qhx, qhy => lstI_ge (by omega) (fun p _ _ _ => gaN_nn st sx sy d _ _ _ _ _ _)
/-- what the bends and tapers of the next d rings can do to an offset -/
def alN (F : Int → Int) : Nat → Int → Int
  | 0, _ => 0
  | d + 1, k => ((d : Int) + 1) * F k + alN F d (k + 1)
theorem alN_sum {F : Int → Int} {sr : Int} : ∀ (d : Nat) (k : Int), 0 ≤ k → sr = k + (d : Int) → sumI (fun j => (sr - j) * F j) sr - sumI (fun j => (sr - j) * F j) k = alN F d k
  | 0, k, _, h2 => by
    rw [show sr = k by omega]
    show _ = (0 : Int)
    omega
  | d + 1, k, h1, h2 => by
    have ih := alN_sum (F := F) (sr := sr) d (k + 1) (by omega) (by omega)
    rw [sumI_step _ h1] at ih
    show _ = ((d : Int) + 1) * F k + alN F d (k + 1)
    have h3 : (sr - k) * F k = ((d : Int) + 1) * F k := by rw [show sr - k = (d : Int) + 1 by omega]
    omega
theorem scale_b {d t S : Int} (hd : 0 ≤ d) (ht : 0 ≤ t) (hS : -1 ≤ S ∧ S ≤ 1) : -(d * t) ≤ d * (t * S) ∧ d * (t * S) ≤ d * t := by
  have h1 : -t ≤ t * S ∧ t * S ≤ t := by
    have := mulb (a := t) (b := S) (A := t) (B := 1) (by omega) hS
    omega
  have h2 := Int.mul_le_mul_of_nonneg_left h1.2 hd
  have h3 := Int.mul_le_mul_of_nonneg_left h1.1 hd
  rw [Int.mul_neg] at h3
  exact ⟨h3, h2⟩
theorem lbN {st sx sy : Int → Int} (hst : bnd st 0 9) : ∀ (d : Nat) (k be qx qy qhx qhy : Int), mn (mx 0 (aI (qx + (d : Int) * qhx - alN sx d k) - alN st d k) + mx 0 (aI (qy + (d : Int) * qhy - alN sy d k) - alN st d k)) 2147483647 ≤ gaN st sx sy d k be qx qy qhx qhy
  | 0, k, be, qx, qy, qhx, qhy => by
    show mn (mx 0 (aI (qx + ((0 : Nat) : Int) * qhx - 0) - 0) + mx 0 (aI (qy + ((0 : Nat) : Int) * qhy - 0) - 0)) 2147483647 ≤ aI qx + aI qy
    rw [show qx + ((0 : Nat) : Int) * qhx - 0 = qx by simp, show qy + ((0 : Nat) : Int) * qhy - 0 = qy by simp]
    have h1 := aI_r qx rfl
    have h2 := aI_r qy rfl
    have h3 := mx_r 0 (aI qx - 0) rfl
    have h4 := mx_r 0 (aI qy - 0) rfl
    have h5 := mn_r (mx 0 (aI qx - 0) + mx 0 (aI qy - 0)) 2147483647 rfl
    omega
  | d + 1, k, be, qx, qy, qhx, qhy => by
    refine lstI_ge ?_ (fun p h1 h2 _ => ?_)
    · have h5 := mn_r (mx 0 (aI (qx + ((d + 1 : Nat) : Int) * qhx - alN sx (d + 1) k) - alN st (d + 1) k) + mx 0 (aI (qy + ((d + 1 : Nat) : Int) * qhy - alN sy (d + 1) k) - alN st (d + 1) k)) 2147483647 rfl
      omega
    · refine Int.le_trans ?_ (lbN (sx := sx) (sy := sy) hst d (k + 1) p _ _ _ _)
      show mn (mx 0 (aI (qx + ((d + 1 : Nat) : Int) * qhx - (((d : Int) + 1) * sx k + alN sx d (k + 1))) - (((d : Int) + 1) * st k + alN st d (k + 1))) + mx 0 (aI (qy + ((d + 1 : Nat) : Int) * qhy - (((d : Int) + 1) * sy k + alN sy d (k + 1))) - (((d : Int) + 1) * st k + alN st d (k + 1)))) 2147483647 ≤ _
      have key : ∀ (q qh s S : Int) (sF : Int → Int), -1 ≤ S ∧ S ≤ 1 → s = sF k → mx 0 (aI (q + ((d + 1 : Nat) : Int) * qh - (((d : Int) + 1) * sF k + alN sF d (k + 1))) - (((d : Int) + 1) * st k + alN st d (k + 1))) ≤ mx 0 (aI (q + (qh + (st k * S - s)) + (d : Int) * (qh + (st k * S - s)) - alN sF d (k + 1)) - alN st d (k + 1)) := by
        intro q qh s S sF hS hs
        have b1 := scale_b (d := (d : Int) + 1) (t := st k) (S := S) (by omega) (hst k).1 hS
        have e1 : q + (qh + (st k * S - s)) + (d : Int) * (qh + (st k * S - s)) - alN sF d (k + 1) = (q + ((d + 1 : Nat) : Int) * qh - (((d : Int) + 1) * sF k + alN sF d (k + 1))) + ((d : Int) + 1) * (st k * S) := by
          rw [hs]
          simp only [Int.mul_add, Int.mul_sub, Int.add_mul, Int.one_mul, Int.natCast_add, Int.natCast_one, Int.ofNat_eq_natCast]
          omega
        rw [e1]
        generalize q + ((d + 1 : Nat) : Int) * qh - (((d : Int) + 1) * sF k + alN sF d (k + 1)) = X at *
        generalize ((d : Int) + 1) * (st k * S) = Y at *
        generalize ((d : Int) + 1) * st k = Z at *
        generalize alN st d (k + 1) = T at *
        have a1 := aI_r X rfl
        have a2 := aI_r (X + Y) rfl
        have a3 := mx_r 0 (aI X - (Z + T)) rfl
        have a4 := mx_r 0 (aI (X + Y) - T) rfl
        omega
      have k1 := key qx qhx (sx k) (toSide p) sx (toSide_r p) rfl
      have k2 := key qy qhy (sy k) (upward p) sy (upward_r p) rfl
      unfold mn
      split <;> split <;> omega
theorem gaN_leaN {st sx sy yt bx byy : Int → Int} {pn ld : Int} (hld : 0 ≤ ld) : ∀ (d : Nat) (k be at_ hx hy x y : Int), 0 ≤ k → (∀ j : Int, k ≤ j → j < k + (d : Int) → st j = yt (at_ - (j - k)) ∧ sx j = gt0 pn bx (ld + j) ∧ sy j = gt0 pn byy (ld + j)) →
    gaN st sx sy d k be (x - plO pn bx (ld + k)) (y - plO pn byy (ld + k)) (hx - plH pn bx (ld + k)) (hy - plH pn byy (ld + k)) = leaN yt (fun x y => aI (x - plO pn bx (ld + (k + (d : Int)))) + aI (y - plO pn byy (ld + (k + (d : Int))))) d at_ be hx hy x y
  | 0, k, be, at_, hx, hy, x, y, _, _ => by
    show aI _ + aI _ = aI (x - plO pn bx (ld + (k + ((0 : Nat) : Int)))) + aI (y - plO pn byy (ld + (k + ((0 : Nat) : Int))))
    rw [show k + ((0 : Nat) : Int) = k by omega]
  | d + 1, k, be, at_, hx, hy, x, y, hk, h => by
    refine lstI_congr (fun p h1 h2 => ?_)
    obtain ⟨e1, e2, e3⟩ := h k (by omega) (by omega)
    rw [show at_ - (k - k) = at_ by omega] at e1
    have ih := gaN_leaN (st := st) (sx := sx) (sy := sy) (yt := yt) (bx := bx) (byy := byy) (pn := pn) hld d (k + 1) p (at_ - 1) (hx + yt at_ * toSide p) (hy + yt at_ * upward p) (x + (hx + yt at_ * toSide p)) (y + (hy + yt at_ * upward p)) (by omega) (fun j h3 h4 => by
      obtain ⟨q1, q2, q3⟩ := h j (by omega) (by omega)
      exact ⟨by rw [q1]; congr 1; omega, q2, q3⟩)
    rw [show ld + (k + 1) = (ld + k) + 1 by omega, plO_step (by omega), plO_step (by omega), plH_step (by omega), plH_step (by omega)] at ih
    rw [show k + 1 + (d : Int) = k + ((d + 1 : Nat) : Int) by omega] at ih
    show gaN st sx sy d (k + 1) p _ _ _ _ = leaN yt _ d (at_ - 1) p _ _ _ _
    rw [← ih, e1, e2, e3]
    congr 1 <;> omega
theorem dev_eq {pn ld ehx ehy ta po : Int} {bx byy kx ky : Int → Int} (h : 0 ≤ ld) : aI (lastF ld kx - plO pn bx ld + (ehx - plH pn bx ld + (ta * toSide po - gt0 pn bx ld))) + aI (lastF ld ky - plO pn byy ld + (ehy - plH pn byy ld + (ta * upward po - gt0 pn byy ld))) = devF pn bx byy kx ky ld ehx ehy ta po := by
  unfold devF
  rw [plO_step h, plO_step h, plH_step h, plH_step h]
  congr 2 <;> omega
theorem besN_none {be : Int} {dv : Int → Int} : ∀ n : Nat, besN be dv n < 0 → ∀ p : Int, 0 ≤ p → p < n → ¬ fitP be p
  | 0, _, p, h1, h2 => absurd h2 (by omega)
  | n + 1, h, p, h1, h2 => by
    have h3 : (if fitP be (n : Int) ∧ (besN be dv n < 0 ∨ dv (n : Int) < dv (besN be dv n)) then (n : Int) else besN be dv n) < 0 := h
    by_cases hq : fitP be (n : Int) ∧ (besN be dv n < 0 ∨ dv (n : Int) < dv (besN be dv n))
    · rw [if_pos hq] at h3; omega
    · rw [if_neg hq] at h3
      have ih := besN_none (be := be) (dv := dv) n h3
      by_cases hp : p = (n : Int)
      · rw [hp]; intro hf; exact hq ⟨hf, Or.inl h3⟩
      · exact ih p h1 (by omega)
theorem besI_8 {be : Int} {dv : Int → Int} (h : -1 ≤ be ∧ be ≤ 7) : 0 ≤ besI be dv 8 := by
  refine Classical.byContradiction fun hq => ?_
  have h1 := besN_none (be := be) (dv := dv) 8 (by show besI be dv 8 < 0; omega)
  have h2 := h1 0 (by omega) (by omega)
  have h3 := h1 1 (by omega) (by omega)
  have h4 := h1 2 (by omega) (by omega)
  unfold fitP at h2 h3 h4
  omega
theorem mnN_start {F : Int → Int} {a hi : Int} (hF : bnd F 0 hi) (h : hi ≤ 2147483647) : ∀ n : Nat, mnN F a 2147483647 (n + 1) = mnN F a (mxN F a (n + 1)) (n + 1) ∧ mnN F a 2147483647 (n + 1) ≤ mxN F a (n + 1)
  | 0 => by
    have h1 := hF (a + ((0 : Nat) : Int))
    show mn 2147483647 (F (a + ((0 : Nat) : Int))) = mn (mx 0 (F (a + ((0 : Nat) : Int)))) (F (a + ((0 : Nat) : Int))) ∧ mn 2147483647 (F (a + ((0 : Nat) : Int))) ≤ mx 0 (F (a + ((0 : Nat) : Int)))
    unfold mn mx
    repeat' split <;> omega
  | n + 1 => by
    obtain ⟨e1, e2⟩ := mnN_start (a := a) hF h n
    have hm := mx_r (mxN F a (n + 1)) (F (a + ((n + 1 : Nat) : Int))) rfl
    have e3 : ∀ k : Nat, ∀ s t : Int, s ≤ t → mnN F a s k ≤ s ∧ (mnN F a t k = mnN F a s k ∨ (mnN F a s k = s ∧ s ≤ mnN F a t k)) := by
      intro k
      induction k with
      | zero => intro s t hst; exact ⟨Int.le_refl _, Or.inr ⟨rfl, hst⟩⟩
      | succ k ih =>
        intro s t hst
        obtain ⟨i1, i2⟩ := ih s t hst
        have m1 := mn_r (mnN F a s k) (F (a + (k : Int))) rfl
        have m2 := mn_r (mnN F a t k) (F (a + (k : Int))) rfl
        show mn (mnN F a s k) (F (a + (k : Int))) ≤ s ∧ (mn (mnN F a t k) (F (a + (k : Int))) = mn (mnN F a s k) (F (a + (k : Int))) ∨ (mn (mnN F a s k) (F (a + (k : Int))) = s ∧ s ≤ mn (mnN F a t k) (F (a + (k : Int)))))
        refine ⟨by omega, ?_⟩
        rcases i2 with i2 | ⟨i2, i3⟩
        · left; rw [i2]
        · unfold mn
          repeat' split <;> omega
    have q := e3 (n + 1) (mxN F a (n + 1)) (mx (mxN F a (n + 1)) (F (a + ((n + 1 : Nat) : Int)))) hm.1
    have q2 := e3 (n + 1) (mx (mxN F a (n + 1)) (F (a + ((n + 1 : Nat) : Int)))) 2147483647 (by have := mxI_r hF (by have := hF 0; omega) a ((n + 2 : Nat) : Int); have e9 : mxI F a ((n + 2 : Nat) : Int) = mx (mxN F a (n + 1)) (F (a + ((n + 1 : Nat) : Int))) := rfl; omega)
    show mn (mnN F a 2147483647 (n + 1)) (F (a + ((n + 1 : Nat) : Int))) = mn (mnN F a (mx (mxN F a (n + 1)) (F (a + ((n + 1 : Nat) : Int)))) (n + 1)) (F (a + ((n + 1 : Nat) : Int))) ∧ mn (mnN F a 2147483647 (n + 1)) (F (a + ((n + 1 : Nat) : Int))) ≤ mx (mxN F a (n + 1)) (F (a + ((n + 1 : Nat) : Int)))
    have m3 := mn_r (mnN F a 2147483647 (n + 1)) (F (a + ((n + 1 : Nat) : Int))) rfl
    refine ⟨?_, by omega⟩
    congr 1
    omega
theorem mnI_start {sk fi la : Int → Int} {h : Int} (hF : bnd sk 0 500000) (hl : fi h ≤ la h) : mnI sk (fi h) (mostF sk fi la h) (la h - fi h + 1) = mnI sk (fi h) 2147483647 (la h - fi h + 1) := by
  unfold mostF mnI mxI
  obtain ⟨n, hn⟩ : ∃ n : Nat, (la h - fi h + 1).toNat = n + 1 := ⟨(la h - fi h).toNat, by omega⟩
  rw [hn]
  exact (mnN_start hF (by omega) n).1.symm
