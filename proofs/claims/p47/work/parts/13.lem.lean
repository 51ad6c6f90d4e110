/-- what stands at a known place, 0 elsewhere -/
def gt0 (k : Int) (F : Int → Int) (i : Int) : Int := if 0 ≤ i ∧ i < k then F i else 0
theorem gt0_r {k : Int} {F : Int → Int} {i lo hi : Int} (h : bnd F lo hi) (h1 : lo ≤ 0) (h2 : 0 ≤ hi) : lo ≤ gt0 k F i ∧ gt0 k F i ≤ hi := by
  unfold gt0; split
  · exact h i
  · exact ⟨h1, h2⟩
theorem gt0_in {k : Int} {F : Int → Int} {i : Int} (h : 0 ≤ i ∧ i < k) : gt0 k F i = F i := if_pos h
theorem gt0_out {k : Int} {F : Int → Int} {i : Int} (h : ¬ (0 ≤ i ∧ i < k)) : gt0 k F i = 0 := if_neg h
def sinkF (k : Int) (F : Int → Int) (i fa : Int) : Int → Int := if 0 ≤ i ∧ i < k then up F i (F i + fa) else F
/-- a row filled from a on, up to b -/
def fil (F : Int → Int) (a b v : Int) : Int → Int := fun j => if a ≤ j ∧ j < b then v else F j
theorem fil_0 (F : Int → Int) (a v : Int) : fil F a a v = F := by funext j; unfold fil; rw [if_neg (by omega)]
theorem fil_step {F : Int → Int} {a b v : Int} (h : a ≤ b) : up (fil F a b v) b v = fil F a (b + 1) v := by
  funext j; unfold up fil
  by_cases q : j = b
  · rw [if_pos q, if_pos (by omega)]
  · rw [if_neg q]; by_cases z : a ≤ j ∧ j < b
    · rw [if_pos z, if_pos (by omega)]
    · rw [if_neg z, if_neg (by omega)]
theorem bnd_fil {F : Int → Int} {lo hi a b v : Int} (h : bnd F lo hi) (h1 : lo ≤ v) (h2 : v ≤ hi) : bnd (fil F a b v) lo hi := by
  intro i; unfold fil; split
  · exact ⟨h1, h2⟩
  · exact h i
def lastP (ld : Int) (tp : Int → Int) : Int := if ld = 0 then -1 else tp (ld - 1)
theorem lastP_r {ld : Int} {tp : Int → Int} (h : bnd tp 0 7) : -1 ≤ lastP ld tp ∧ lastP ld tp ≤ 7 := by
  unfold lastP; split
  · omega
  · have := h (ld - 1); omega
def sumN (f : Int → Int) : Nat → Int
  | 0 => 0
  | n + 1 => sumN f n + f (n : Int)
def sumI (f : Int → Int) (n : Int) : Int := sumN f n.toNat
theorem sumI_0 (f : Int → Int) : sumI f 0 = 0 := rfl
theorem sumI_step (f : Int → Int) {n : Int} (h : 0 ≤ n) : sumI f (n + 1) = sumI f n + f n := by
  unfold sumI
  obtain ⟨k, rfl⟩ := Int.eq_ofNat_of_zero_le h
  rw [show ((k : Int) + 1).toNat = k + 1 by omega, show ((k : Int)).toNat = k by omega]
  rfl
theorem mulb0 {a b A B : Int} (ha : 0 ≤ a ∧ a ≤ A) (hb : 0 ≤ b ∧ b ≤ B) : 0 ≤ a * b ∧ a * b ≤ A * B :=
  ⟨Int.mul_nonneg ha.1 hb.1, Int.mul_le_mul ha.2 hb.2 hb.1 (Int.le_trans ha.1 ha.2)⟩
theorem mulb {a b A B : Int} (ha : -A ≤ a ∧ a ≤ A) (hb : -B ≤ b ∧ b ≤ B) : -(A * B) ≤ a * b ∧ a * b ≤ A * B := by
  have hA : 0 ≤ A := by omega
  have hB : 0 ≤ B := by omega
  rcases Int.le_total 0 a with h | h <;> rcases Int.le_total 0 b with k | k
  · have := mulb0 (a := a) (b := b) ⟨h, ha.2⟩ ⟨k, hb.2⟩; omega
  · have := mulb0 (a := a) (b := -b) (A := A) (B := B) ⟨h, ha.2⟩ ⟨by omega, by omega⟩
    rw [Int.mul_neg] at this; omega
  · have := mulb0 (a := -a) (b := b) (A := A) (B := B) ⟨by omega, by omega⟩ ⟨k, hb.2⟩
    rw [Int.neg_mul] at this; omega
  · have := mulb0 (a := -a) (b := -b) (A := A) (B := B) ⟨by omega, by omega⟩ ⟨by omega, by omega⟩
    rw [Int.neg_mul_neg] at this; omega
theorem sumI_b {f : Int → Int} {B n : Int} (h : bnd f 0 B) (hn : 0 ≤ n) : 0 ≤ sumI f n ∧ sumI f n ≤ n * B := by
  obtain ⟨k, rfl⟩ := Int.eq_ofNat_of_zero_le hn
  induction k with
  | zero => rw [show ((0 : Nat) : Int) = 0 from rfl, sumI_0]; omega
  | succ k ih =>
    have h1 := ih (by omega)
    have h2 := h (k : Int)
    rw [show ((k + 1 : Nat) : Int) = (k : Int) + 1 by omega, sumI_step _ (by omega), Int.add_mul]
    omega
