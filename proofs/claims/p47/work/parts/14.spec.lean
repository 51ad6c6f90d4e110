/-! What each call answers, in numbers: which exception (0: none), the value, the state. -/
def rgT (k rg : Int) : Int := if 0 ≤ rg ∧ rg < k then 0 else 1
def agT (kn rgs nn nw : Int) : Int := if ¬ (1 ≤ rgs ∧ rgs ≤ 50) ∨ ¬ (0 ≤ nn ∧ nn ≤ 100) ∨ ¬ (0 ≤ nw ∧ nw ≤ 20) then 1 else if 200 < kn + rgs then 2 else 0
def acT (pn rgs nx ny : Int) : Int := if ¬ (1 ≤ rgs ∧ rgs ≤ 50) ∨ ¬ (-5 ≤ nx ∧ nx ≤ 5) ∨ ¬ (-5 ≤ ny ∧ ny ≤ 5) then 1 else if 200 < pn + rgs then 2 else 0
def ahT (kn bu fr lr nl nr : Int) : Int := if ¬ (0 ≤ fr ∧ fr < kn) ∨ ¬ (0 ≤ lr ∧ lr < kn) then 1 else if lr < fr ∨ ¬ (0 ≤ nl ∧ nl ≤ 100) ∨ ¬ (1 ≤ nr ∧ nr ≤ 50) then 2 else if bu = 8 then 3 else 0
def stT (sta : Int) : Int := if 0 ≤ sta ∧ sta ≤ 2 then 0 else 1
def caT (ht : Int → Int) (sta nt : Int) : Int := if ¬ (0 ≤ sta ∧ sta ≤ 2) then 1 else if ¬ (0 ≤ nt ∧ nt ≤ 9) then 2 else if ht sta = 12 then 3 else 0
def taT (ht : Int → Int) (sta pl : Int) : Int := if ¬ (0 ≤ sta ∧ sta ≤ 2) then 1 else if ¬ (0 ≤ pl ∧ pl < ht sta) then 2 else 0
def emT (ht : Int → Int) (sta : Int) : Int := if ¬ (0 ≤ sta ∧ sta ≤ 2) then 1 else if ht sta = 0 then 2 else 0
def reT (ht : Int → Int) (sta stb : Int) : Int := if ¬ (0 ≤ sta ∧ sta ≤ 2) ∨ ¬ (0 ≤ stb ∧ stb ≤ 2) then 1 else if ht sta = 0 then 2 else if sta ≠ stb ∧ ht stb = 12 then 3 else 0
def inT (lo hi v : Int) : Int := if lo ≤ v ∧ v ≤ hi then 0 else 1
def slT (tk vo : Int) : Int := if ¬ (1 ≤ vo ∧ vo ≤ 500) then 1 else if 1000 < tk + vo then 2 else 0
def sfT (ld kn : Int) : Int := if ld < kn then 0 else 1
def rfT (sta po : Int) : Int := if ¬ (0 ≤ sta ∧ sta ≤ 2) then 1 else if ¬ (0 ≤ po ∧ po ≤ 7) then 2 else 0
def soT (hou hrs : Int) : Int := if ¬ (1 ≤ hrs ∧ hrs ≤ 100) then 1 else if 5000 < hou + hrs then 2 else 0
def dwT (ht : Int → Int) (sta po : Int) : Int := if ¬ (0 ≤ sta ∧ sta ≤ 2) then 1 else if ¬ (0 ≤ po ∧ po ≤ 7) then 2 else if ht sta = 0 then 3 else 0
def ldT (ht : Int → Int) (sta cnt : Int) : Int := if ¬ (0 ≤ sta ∧ sta ≤ 2) then 1 else if ¬ (1 ≤ cnt ∧ cnt ≤ 4) then 2 else if ht sta < cnt then 3 else 0
def laT (sta po rea hou : Int) : Int := if ¬ (0 ≤ sta ∧ sta ≤ 2) then 1 else if ¬ (0 ≤ po ∧ po ≤ 7) then 2 else if rea ≠ 45 then 3 else if 5000 < hou + 2 then 4 else 0
def clT (bu h ow : Int) : Int := if ¬ (0 ≤ h ∧ h < bu) then 1 else if ow = 0 then 2 else 0
def noT (k : Int) : Int := if k = 0 then 1 else 0
/-- the planned heading and offset behind n rings -/
def plH (pn : Int) (F : Int → Int) (n : Int) : Int := sumI (fun k => gt0 pn F k) n
def plO (pn : Int) (F : Int → Int) (n : Int) : Int := sumI (fun k => plH pn F (k + 1)) n
theorem sumI_bb {f : Int → Int} {B n : Int} (h : ∀ k : Int, 0 ≤ k → k < n → -B ≤ f k ∧ f k ≤ B) (hn : 0 ≤ n) : -(n * B) ≤ sumI f n ∧ sumI f n ≤ n * B := by
  obtain ⟨k, rfl⟩ := Int.eq_ofNat_of_zero_le hn
  induction k with
  | zero => rw [show ((0 : Nat) : Int) = 0 from rfl, sumI_0]; omega
  | succ k ih =>
    have h1 := ih (fun j h1 h2 => h j h1 (by omega)) (by omega)
    have h2 := h (k : Int) (by omega) (by omega)
    rw [show ((k + 1 : Nat) : Int) = (k : Int) + 1 by omega, sumI_step _ (by omega), Int.add_mul]
    omega
theorem plH_step {pn : Int} {F : Int → Int} {n : Int} (h : 0 ≤ n) : plH pn F (n + 1) = plH pn F n + gt0 pn F n := sumI_step _ h
theorem plO_step {pn : Int} {F : Int → Int} {n : Int} (h : 0 ≤ n) : plO pn F (n + 1) = plO pn F n + plH pn F (n + 1) := sumI_step _ h
theorem plH_b {pn : Int} {F : Int → Int} (hF : bnd F (-5) 5) {n : Int} (h : 0 ≤ n) : -(n * 5) ≤ plH pn F n ∧ plH pn F n ≤ n * 5 := sumI_bb (fun k _ _ => gt0_r hF (by omega) (by omega)) h
theorem plO_b {pn : Int} {F : Int → Int} (hF : bnd F (-5) 5) {n : Int} (h : 0 ≤ n) (h2 : n ≤ 250) : -312500 ≤ plO pn F n ∧ plO pn F n ≤ 312500 := by
  have h3 := sumI_bb (f := fun k => plH pn F (k + 1)) (B := 1250) (n := n) (fun k h3 h4 => by
    have := plH_b (pn := pn) hF (n := k + 1) (by omega)
    show -1250 ≤ plH pn F (k + 1) ∧ plH pn F (k + 1) ≤ 1250
    omega) h
  unfold plO
  omega
/-- the line's end, as it is kept -/
def lastF (ld : Int) (F : Int → Int) : Int := if ld = 0 then 0 else F (ld - 1)
theorem lastF_r {ld lo hi : Int} {F : Int → Int} (h : bnd F lo hi) (h1 : lo ≤ 0) (h2 : 0 ≤ hi) : lo ≤ lastF ld F ∧ lastF ld F ≤ hi := by
  unfold lastF; split
  · exact ⟨h1, h2⟩
  · exact h _
def takF (nd wk : Int → Int) (pr i : Int) : Int := 10 + wk i + mx 0 (pr - nd i - 20)
/-- the deviation behind the next ring, with a taper, in a position -/
def devF (pn : Int) (bx byy kx ky : Int → Int) (ld ehx ehy ta po : Int) : Int := aI (lastF ld kx + ehx + ta * toSide po - plO pn bx (ld + 1)) + aI (lastF ld ky + ehy + ta * upward po - plO pn byy (ld + 1))
/-- does a position fit behind one (-1: the first ring) -/
abbrev fitP (be po : Int) : Prop := be < 0 ∨ (be ≠ po ∧ be - po ≠ 4 ∧ po - be ≠ 4)
def reaF (kn ld : Int) (hts : Int) (cure be po tk tak dev tol : Int) : Int := if kn ≤ ld then 103 else if hts = 0 then 101 else if 0 < cure then 99 else if ¬ fitP be po then 106 else if tk < tak then 115 else if tol < dev then 116 else 45
/-- the greatest of n places of a row from a on, 0 at least -/
def mxN (F : Int → Int) (a : Int) : Nat → Int
  | 0 => 0
  | n + 1 => mx (mxN F a n) (F (a + (n : Int)))
def mxI (F : Int → Int) (a n : Int) : Int := mxN F a n.toNat
theorem mxI_0 (F : Int → Int) (a : Int) : mxI F a 0 = 0 := rfl
theorem mxI_step (F : Int → Int) (a : Int) {n : Int} (h : 0 ≤ n) : mxI F a (n + 1) = mx (mxI F a n) (F (a + n)) := by
  unfold mxI
  obtain ⟨k, rfl⟩ := Int.eq_ofNat_of_zero_le h
  rw [show ((k : Int) + 1).toNat = k + 1 by omega, show ((k : Int)).toNat = k by omega]
  rfl
theorem mxI_r {F : Int → Int} {hi : Int} (hF : bnd F 0 hi) (h : 0 ≤ hi) (a n : Int) : 0 ≤ mxI F a n ∧ mxI F a n ≤ hi := by
  unfold mxI
  generalize n.toNat = k
  induction k with
  | zero => exact ⟨Int.le_refl 0, h⟩
  | succ k ih =>
    have h2 := hF (a + (k : Int))
    have h3 := mx_r (mxN F a k) (F (a + (k : Int))) rfl
    show 0 ≤ mx (mxN F a k) (F (a + (k : Int))) ∧ mx (mxN F a k) (F (a + (k : Int))) ≤ hi
    omega
/-- the sinking of the house h -/
def mostF (sk fi la : Int → Int) (h : Int) : Int := mxI sk (fi h) (la h - fi h + 1)
/-- the least of n places and a start -/
def mnN (F : Int → Int) (a s0 : Int) : Nat → Int
  | 0 => s0
  | n + 1 => mn (mnN F a s0 n) (F (a + (n : Int)))
def mnI (F : Int → Int) (a s0 n : Int) : Int := mnN F a s0 n.toNat
theorem mnI_0 (F : Int → Int) (a s0 : Int) : mnI F a s0 0 = s0 := rfl
theorem mnI_step (F : Int → Int) (a s0 : Int) {n : Int} (h : 0 ≤ n) : mnI F a s0 (n + 1) = mn (mnI F a s0 n) (F (a + n)) := by
  unfold mnI
  obtain ⟨k, rfl⟩ := Int.eq_ofNat_of_zero_le h
  rw [show ((k : Int) + 1).toNat = k + 1 by omega, show ((k : Int)).toNat = k by omega]
  rfl
def owedF (sk fi la li ra pa : Int → Int) (h : Int) : Int := mx 0 (mostF sk fi la h - li h) * ra h - pa h
/-- the worst of the first n houses -/
def worN (M : Int → Int) : Nat → Int
  | 0 => 0
  | n + 1 => if M (worN M n) < M (n : Int) then (n : Int) else worN M n
def worI (M : Int → Int) (n : Int) : Int := worN M n.toNat
theorem worI_step (M : Int → Int) {n : Int} (h : 0 ≤ n) : worI M (n + 1) = if M (worI M n) < M n then n else worI M n := by
  unfold worI
  obtain ⟨k, rfl⟩ := Int.eq_ofNat_of_zero_le h
  rw [show ((k : Int) + 1).toNat = k + 1 by omega, show ((k : Int)).toNat = k by omega]
  rfl
theorem worN_r (M : Int → Int) (n : Nat) : 0 ≤ worN M n ∧ (worN M n < (n : Int) ∨ worN M n = 0) := by
  induction n with
  | zero => exact ⟨Int.le_refl 0, Or.inr rfl⟩
  | succ n ih =>
    show 0 ≤ (if M (worN M n) < M (n : Int) then (n : Int) else worN M n) ∧ ((if M (worN M n) < M (n : Int) then (n : Int) else worN M n) < ((n + 1 : Nat) : Int) ∨ (if M (worN M n) < M (n : Int) then (n : Int) else worN M n) = 0)
    split <;> omega
/-- the best of the first n positions -/
def besN (be : Int) (dv : Int → Int) : Nat → Int
  | 0 => -1
  | n + 1 => if fitP be (n : Int) ∧ (besN be dv n < 0 ∨ dv (n : Int) < dv (besN be dv n)) then (n : Int) else besN be dv n
def besI (be : Int) (dv : Int → Int) (n : Int) : Int := besN be dv n.toNat
theorem besI_step (be : Int) (dv : Int → Int) {n : Int} (h : 0 ≤ n) : besI be dv (n + 1) = if fitP be n ∧ (besI be dv n < 0 ∨ dv n < dv (besI be dv n)) then n else besI be dv n := by
  unfold besI
  obtain ⟨k, rfl⟩ := Int.eq_ofNat_of_zero_le h
  rw [show ((k : Int) + 1).toNat = k + 1 by omega, show ((k : Int)).toNat = k by omega]
  rfl
theorem besN_r (be : Int) (dv : Int → Int) (n : Nat) : -1 ≤ besN be dv n ∧ besN be dv n < (n : Int) := by
  induction n with
  | zero => exact ⟨Int.le_refl _, by show (-1 : Int) < 0; omega⟩
  | succ n ih =>
    show -1 ≤ (if fitP be (n : Int) ∧ (besN be dv n < 0 ∨ dv (n : Int) < dv (besN be dv n)) then (n : Int) else besN be dv n) ∧ (if fitP be (n : Int) ∧ (besN be dv n < 0 ∨ dv (n : Int) < dv (besN be dv n)) then (n : Int) else besN be dv n) < ((n + 1 : Nat) : Int)
    split <;> omega
/-- a ring is moved from one stack onto another -/
def rsH (ht : Int → Int) (a b : Int) : Int → Int := up (up ht a (ht a - 1)) b (up ht a (ht a - 1) b + 1)
def rsF (ht F : Int → Int) (a b : Int) : Int → Int := up F (b * 12 + up ht a (ht a - 1) b) (F (a * 12 + ht a - 1))
/-- the least deviation by trying all: d rings more; the next one from place 'at' -/
def lstP (f : Int → Int) (fit : Int → Bool) : Nat → Int
  | 0 => 2147483647
  | n + 1 => if fit (n : Int) then mn (lstP f fit n) (f (n : Int)) else lstP f fit n
def lstI (f : Int → Int) (fit : Int → Bool) (n : Int) : Int := lstP f fit n.toNat
theorem lstI_step (f : Int → Int) (fit : Int → Bool) {n : Int} (h : 0 ≤ n) : lstI f fit (n + 1) = if fit n then mn (lstI f fit n) (f n) else lstI f fit n := by
  unfold lstI
  obtain ⟨k, rfl⟩ := Int.eq_ofNat_of_zero_le h
  rw [show ((k : Int) + 1).toNat = k + 1 by omega, show ((k : Int)).toNat = k by omega]
  rfl
def leaN (yt : Int → Int) (ap : Int → Int → Int) : Nat → Int → Int → Int → Int → Int → Int → Int
  | 0, _, _, _, _, x, y => ap x y
  | d + 1, a, be, hx, hy, x, y => lstI (fun p => leaN yt ap d (a - 1) p (hx + yt a * toSide p) (hy + yt a * upward p) (x + (hx + yt a * toSide p)) (y + (hy + yt a * upward p))) (fun p => decide (fitP be p)) 8
theorem devF_r {pn ld ehx ehy ta po : Int} {bx byy kx ky : Int → Int} (h1 : bnd bx (-5) 5) (h2 : bnd byy (-5) 5) (h3 : bnd kx (-400000) 400000) (h4 : bnd ky (-400000) 400000) (h5 : 0 ≤ ld ∧ ld ≤ 200) (h6 : -2000 ≤ ehx ∧ ehx ≤ 2000) (h7 : -2000 ≤ ehy ∧ ehy ≤ 2000) (h8 : 0 ≤ ta ∧ ta ≤ 9) (h9 : 0 ≤ po ∧ po ≤ 7) : 0 ≤ devF pn bx byy kx ky ld ehx ehy ta po ∧ devF pn bx byy kx ky ld ehx ehy ta po ≤ 10000000 := by
  unfold devF
  have a1 := plO_b (pn := pn) h1 (n := ld + 1) (by omega) (by omega)
  have a2 := plO_b (pn := pn) h2 (n := ld + 1) (by omega) (by omega)
  have a3 := lastF_r (ld := ld) h3 (by omega) (by omega)
  have a4 := lastF_r (ld := ld) h4 (by omega) (by omega)
  have m1 := mulb (A := 9) (B := 1) (a := ta) (b := toSide po) (by omega) (toSide_r po)
  have m2 := mulb (A := 9) (B := 1) (a := ta) (b := upward po) (by omega) (upward_r po)
  have b1 := aI_r (lastF ld kx + ehx + ta * toSide po - plO pn bx (ld + 1)) rfl
  have b2 := aI_r (lastF ld ky + ehy + ta * upward po - plO pn byy (ld + 1)) rfl
  omega
