/-! ===== sums ===== -/
def ab_sum (g : Int → Int) : Nat → Int
  | 0 => 0
  | k + 1 => ab_sum g k + g k
theorem ab_sum_cg {g f : Int → Int} : ∀ k : Nat, (∀ i : Int, 0 ≤ i → i < k → g i = f i) → ab_sum g k = ab_sum f k
  | 0, _ => rfl
  | k + 1, h => by
    have ih := ab_sum_cg k (fun i h0 h1 => h i h0 (by omega))
    unfold ab_sum
    rw [ih, h k (by omega) (by omega)]
theorem ab_sum_md {g f : Int → Int} : ∀ k : Nat, (∀ i : Int, 0 ≤ i → i < k → g i % 101 = f i % 101) → ab_sum g k % 101 = ab_sum f k % 101
  | 0, _ => rfl
  | k + 1, h => by
    have ih := ab_sum_md k (fun i h0 h1 => h i h0 (by omega))
    have e := h k (by omega) (by omega)
    unfold ab_sum
    omega
theorem ab_sum_add {g f : Int → Int} : ∀ k : Nat, ab_sum (fun i => g i + f i) k = ab_sum g k + ab_sum f k
  | 0 => rfl
  | k + 1 => by
    have ih := ab_sum_add (g := g) (f := f) k
    unfold ab_sum
    rw [ih]
    omega
theorem ab_sum_mul {g : Int → Int} {x : Int} : ∀ k : Nat, ab_sum (fun i => x * g i) k = x * ab_sum g k
  | 0 => by unfold ab_sum; rw [Int.mul_zero]
  | k + 1 => by
    have ih := ab_sum_mul (g := g) (x := x) k
    unfold ab_sum
    rw [ih, Int.mul_add]
theorem ab_sum_mulr {g : Int → Int} {x : Int} : ∀ k : Nat, ab_sum (fun i => g i * x) k = ab_sum g k * x
  | 0 => by unfold ab_sum; rw [Int.zero_mul]
  | k + 1 => by
    have ih := ab_sum_mulr (g := g) (x := x) k
    unfold ab_sum
    rw [ih, Int.add_mul]
theorem ab_sum_0 : ∀ k : Nat, ab_sum (fun _ => 0) k = 0
  | 0 => rfl
  | k + 1 => by
    have ih := ab_sum_0 k
    unfold ab_sum
    rw [ih]
    rfl
theorem ab_sum_sw {g : Int → Int → Int} {m : Nat} : ∀ k : Nat, ab_sum (fun i => ab_sum (fun j => g i j) m) k = ab_sum (fun j => ab_sum (fun i => g i j) k) m
  | 0 => by
    have : (fun j => ab_sum (fun i => g i j) 0) = fun _ => 0 := rfl
    rw [this, ab_sum_0]
    rfl
  | k + 1 => by
    have ih := ab_sum_sw (g := g) (m := m) k
    have e : (fun j => ab_sum (fun i => g i j) (k + 1)) = fun j => ab_sum (fun i => g i j) k + g k j := rfl
    rw [e, ab_sum_add, ← ih]
    rfl
/-- one place alone -/
theorem ab_sum_one {g : Int → Int} {j x : Int} : ∀ k : Nat, 0 ≤ j → (∀ i : Int, 0 ≤ i → i < k → g i = if i = j then x else 0) → ab_sum g k = if j < k then x else 0
  | 0, j0, _ => by
    rw [if_neg (by omega)]
    rfl
  | k + 1, j0, h => by
    have ih := ab_sum_one k j0 (fun i h0 h1 => h i h0 (by omega))
    unfold ab_sum
    rw [ih, h k (by omega) (by omega)]
    by_cases c : j < (k : Int)
    · rw [if_pos c, if_neg (by omega), if_pos (by omega), Int.add_zero]
    · rw [if_neg c]
      by_cases d : (k : Int) = j
      · rw [if_pos d, if_pos (by omega), Int.zero_add]
      · rw [if_neg d, if_neg (by omega), Int.zero_add]
theorem ab_md_mul {x y z : Int} (h : x % 101 = y % 101) : (x * z) % 101 = (y * z) % 101 := by
  rw [Int.mul_emod, h, ← Int.mul_emod]
theorem ab_md_mul2 {x y z : Int} (h : x % 101 = y % 101) : (z * x) % 101 = (z * y) % 101 := by
  rw [Int.mul_emod, h, ← Int.mul_emod]
theorem ab_md_md {x : Int} : x % 101 % 101 = x % 101 := by omega
theorem ab_mvs_sum {T f : Int → Int} {s c : Int} : ∀ k : Nat, ab_mvs T f s c k = ab_sum (fun i => f i * T ((s + i) * 19 + c)) k
  | 0 => rfl
  | k + 1 => by
    have ih := ab_mvs_sum (T := T) (f := f) (s := s) (c := c) k
    unfold ab_mvs ab_sum
    rw [ih]
theorem ab_fss_sum {A F : Int → Int} {o r s : Int} : ∀ k : Nat, ab_fss A F o r s k = ab_sum (fun i => A (o * 19 + (s + i)) * F (r * 19 + (s + i))) k
  | 0 => rfl
  | k + 1 => by
    have ih := ab_fss_sum (A := A) (F := F) (o := o) (r := r) (s := s) k
    unfold ab_fss ab_sum
    rw [ih]
/-- the form of a basis vector and coordinates of its level -/
def ab_ph (L f : Int → Int) (b : Int) : Int := ab_sum (fun i => f i * ab_FT L (b * 19 + (ab_START (ab_LV b) + i))) (ab_wd (ab_LV b)).toNat % 101
theorem ab_ph_s {L f : Int → Int} {b : Int} (hb : ab_bb b) (h1 : b ≠ 0) : ab_ph L f b = ab_ph L (ab_mv (ab_AT L) f (ab_LV b) (ab_LV b - ab_FIRST b)) (ab_REST b) := by
  have lb := ab_lv_r hb
  obtain ⟨k1, k2, k3, k4, k5, k6⟩ := ab_lv_k hb h1
  have hw := ab_wd_eq (lv := ab_LV b) (by omega) (by omega)
  have hv := ab_wd_eq (lv := ab_LV b - ab_FIRST b) (by omega) (by omega)
  unfold ab_ph
  rw [k1]
  have e1 : ab_sum (fun i => f i * ab_FT L (b * 19 + (ab_START (ab_LV b) + i))) (ab_wd (ab_LV b)).toNat % 101 = ab_sum (fun i => ab_sum (fun j => f i * (ab_AT L ((ab_START (ab_LV b) + i) * 19 + (ab_START (ab_LV b - ab_FIRST b) + j)) * ab_FT L (ab_REST b * 19 + (ab_START (ab_LV b - ab_FIRST b) + j)))) (ab_wd (ab_LV b - ab_FIRST b)).toNat) (ab_wd (ab_LV b)).toNat % 101 := by
    refine ab_sum_md _ fun i i0 i1 => ?_
    rw [ab_FT_eq hb ⟨by omega, by omega⟩, ab_fsx, if_neg h1, ab_fss_sum, ab_sum_mul]
    exact ab_md_mul2 ab_md_md
  rw [e1, ab_sum_sw]
  refine ab_sum_md _ fun j j0 j1 => ?_
  have e2 : (fun i => f i * (ab_AT L ((ab_START (ab_LV b) + i) * 19 + (ab_START (ab_LV b - ab_FIRST b) + j)) * ab_FT L (ab_REST b * 19 + (ab_START (ab_LV b - ab_FIRST b) + j)))) = fun i => (f i * ab_AT L ((ab_START (ab_LV b) + i) * 19 + (ab_START (ab_LV b - ab_FIRST b) + j))) * ab_FT L (ab_REST b * 19 + (ab_START (ab_LV b - ab_FIRST b) + j)) := by
    funext i
    rw [Int.mul_assoc]
  rw [e2, ab_sum_mulr]
  refine ab_md_mul ?_
  unfold ab_mv
  rw [if_pos ⟨j0, by omega⟩, ab_mvs_sum, ab_md_md]
theorem ab_ph_0 {L f : Int → Int} : ab_ph L f 0 = f 0 % 101 := by
  have e : ab_FT L (0 * 19 + 0) = 1 := by rw [ab_FT_eq (by decide) (by decide)]; rfl
  show (0 + f 0 * ab_FT L (0 * 19 + 0)) % 101 = _
  rw [e, Int.mul_one, Int.zero_add]
theorem ab_ph_1 {L : Int → Int} {b j : Int} (hb : ab_bb b) (hj : 0 ≤ j ∧ j < ab_wd (ab_LV b)) : ab_ph L (ab_un1 j) b = ab_FT L (b * 19 + (ab_START (ab_LV b) + j)) := by
  unfold ab_ph
  rw [ab_sum_one (x := ab_FT L (b * 19 + (ab_START (ab_LV b) + j))) (j := j) _ hj.1 (fun i i0 i1 => by
    unfold ab_un1
    by_cases e : i = j
    · rw [if_pos e, if_pos e, e, Int.one_mul]
    · rw [if_neg e, if_neg e, Int.zero_mul]), if_pos (by omega)]
  have := ab_FT_r (L := L) (b * 19 + (ab_START (ab_LV b) + j))
  omega
