theorem lstP_le (f : Int → Int) (fit : Int → Bool) : ∀ n : Nat, lstP f fit n ≤ 2147483647
  | 0 => Int.le_refl _
  | n + 1 => by
    have ih := lstP_le f fit n
    have h3 := mn_r (lstP f fit n) (f (n : Int)) rfl
    show (if fit (n : Int) then mn (lstP f fit n) (f (n : Int)) else lstP f fit n) ≤ 2147483647
    split <;> omega
theorem gaN_le (st sx sy : Int → Int) (d : Nat) (k be qx qy qhx qhy : Int) : gaN st sx sy (d + 1) k be qx qy qhx qhy ≤ 2147483647 := by
  show lstI _ _ 8 ≤ 2147483647
  exact lstP_le _ _ 8
theorem mn_maxl {b : Int} (h : b ≤ 2147483647) : mn 2147483647 b = b := by unfold mn; split <;> omega
theorem lead_eq {st sx sy yt bx byy : Int → Int} {pn ld sta ehx ehy ex ey cnt be hts : Int} (d : Nat) (hld : 0 ≤ ld) (hc : cnt = ((d + 1 : Nat) : Int)) : mn 2147483647 (gaN (ovr st cnt (fun k => yt (sta * 12 + (hts - 1 - k)))) (ovr sx cnt (fun k => gt0 pn bx (ld + k))) (ovr sy cnt (fun k => gt0 pn byy (ld + k))) (d + 1) 0 be (ex - plO pn bx ld) (ey - plO pn byy ld) (ehx - plH pn bx ld) (ehy - plH pn byy ld)) = leaN yt (fun x y => aI (x - plO pn bx (ld + cnt)) + aI (y - plO pn byy (ld + cnt))) cnt.toNat (sta * 12 + (hts - 1)) be ehx ehy ex ey := by
  rw [mn_maxl (gaN_le _ _ _ _ _ _ _ _ _ _)]
  have hg := gaN_leaN (st := ovr st cnt (fun k => yt (sta * 12 + (hts - 1 - k)))) (sx := ovr sx cnt (fun k => gt0 pn bx (ld + k))) (sy := ovr sy cnt (fun k => gt0 pn byy (ld + k))) (yt := yt) (bx := bx) (byy := byy) (pn := pn) hld (d + 1) 0 be (sta * 12 + (hts - 1)) ehx ehy ex ey (by omega) (fun j h1 h2 => ⟨by rw [ovr_at (by omega)]; show yt _ = yt _; congr 1; omega, by rw [ovr_at (by omega)], by rw [ovr_at (by omega)]⟩)
  rw [Int.add_zero, show (0 : Int) + ((d + 1 : Nat) : Int) = cnt by omega] at hg
  rw [show cnt.toNat = d + 1 by omega]
  exact hg
theorem sum4_b {F : Int → Int} {sr n B : Int} (hB : 0 ≤ B) (hF : ∀ k : Int, -B ≤ F k ∧ F k ≤ B) (hsr : 0 ≤ sr ∧ sr ≤ 4) (hn : 0 ≤ n ∧ n ≤ sr) : -(16 * B) ≤ sumI (fun k => (sr - k) * F k) n ∧ sumI (fun k => (sr - k) * F k) n ≤ 16 * B := by
  have t1 := sumI_bb (f := fun k => (sr - k) * F k) (B := 4 * B) (n := n) (fun k h1 h2 => by
    have := mulb (A := 4) (B := B) (a := sr - k) (b := F k) (by omega) (hF k)
    exact this) hn.1
  have t2 := Int.mul_le_mul_of_nonneg_right (c := 4 * B) (show n ≤ 4 by omega) (by omega)
  omega
theorem atL_b {sr stp qx qy qhx qhy : Int} {st sx sy : Int → Int} (h1 : 0 ≤ sr ∧ sr ≤ 4) (h2 : 0 ≤ stp ∧ stp ≤ sr) (h3 : -1000000 ≤ qx ∧ qx ≤ 1000000) (h4 : -1000000 ≤ qy ∧ qy ≤ 1000000) (h5 : -10000 ≤ qhx ∧ qhx ≤ 10000) (h6 : -10000 ≤ qhy ∧ qhy ≤ 10000) (b1 : bnd st 0 9) (b2 : bnd sx (-5) 5) (b3 : bnd sy (-5) 5) {v : Int}
    (hv : v = mx 0 (aI (qx + (sr - stp) * qhx - (sumI (fun k => (sr - k) * sx k) sr - sumI (fun k => (sr - k) * sx k) stp)) - (sumI (fun k => (sr - k) * st k) sr - sumI (fun k => (sr - k) * st k) stp)) + mx 0 (aI (qy + (sr - stp) * qhy - (sumI (fun k => (sr - k) * sy k) sr - sumI (fun k => (sr - k) * sy k) stp)) - (sumI (fun k => (sr - k) * st k) sr - sumI (fun k => (sr - k) * st k) stp))) : 0 ≤ v ∧ v ≤ 10000000 := by
  have m1 := mulb (A := 4) (B := 10000) (a := sr - stp) (b := qhx) (by omega) h5
  have m2 := mulb (A := 4) (B := 10000) (a := sr - stp) (b := qhy) (by omega) h6
  have s1 := sum4_b (F := sx) (n := sr) (B := 5) (by omega) b2 h1 (by omega)
  have s2 := sum4_b (F := sx) (n := stp) (B := 5) (by omega) b2 h1 h2
  have s3 := sum4_b (F := sy) (n := sr) (B := 5) (by omega) b3 h1 (by omega)
  have s4 := sum4_b (F := sy) (n := stp) (B := 5) (by omega) b3 h1 h2
  have s5 := sum4_b (F := st) (n := sr) (B := 9) (by omega) (fun k => by have := b1 k; omega) h1 (by omega)
  have s6 := sum4_b (F := st) (n := stp) (B := 9) (by omega) (fun k => by have := b1 k; omega) h1 h2
  generalize sumI (fun k => (sr - k) * sx k) sr = S1 at *
  generalize sumI (fun k => (sr - k) * sx k) stp = S2 at *
  generalize sumI (fun k => (sr - k) * sy k) sr = S3 at *
  generalize sumI (fun k => (sr - k) * sy k) stp = S4 at *
  generalize sumI (fun k => (sr - k) * st k) sr = S5 at *
  generalize sumI (fun k => (sr - k) * st k) stp = S6 at *
  have a1 := aI_r (qx + (sr - stp) * qhx - (S1 - S2)) rfl
  have a2 := aI_r (qy + (sr - stp) * qhy - (S3 - S4)) rfl
  have a3 := mx_r 0 (aI (qx + (sr - stp) * qhx - (S1 - S2)) - (S5 - S6)) rfl
  have a4 := mx_r 0 (aI (qy + (sr - stp) * qhy - (S3 - S4)) - (S5 - S6)) rfl
  omega
