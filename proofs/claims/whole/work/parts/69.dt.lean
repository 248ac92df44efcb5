/-! ===== determinants, purely ===== -/
def ab_sm0 (f : Int → Int) : Nat → Int
  | 0 => 0
  | k + 1 => ab_sm0 f k + f k
def ab_sgn (i : Int) : Int := if i % 2 = 0 then 1 else -1
def ab_mi (i : Int) (M : Int → Int → Int) : Int → Int → Int := fun r c => M (if r < i then r else r + 1) (c + 1)
def ab_dd : Nat → (Int → Int → Int) → Int
  | 0, _ => 1
  | n + 1, M => ab_sm0 (fun i => ab_sgn i * (M i 0 * ab_dd n (ab_mi i M))) (n + 1)
def ab_dx (n : Nat) (M : Int → Int → Int) (i : Int) : Int := ab_sgn i * (M i 0 * ab_dd n (ab_mi i M))
theorem ab_dd_s {n : Nat} {M : Int → Int → Int} : ab_dd (n + 1) M = ab_sm0 (ab_dx n M) (n + 1) := rfl
theorem ab_sm0_lin {f a b : Int → Int} {t : Int} : ∀ k : Nat, (∀ i : Int, 0 ≤ i → i < k → f i = a i + t * b i) → ab_sm0 f k = ab_sm0 a k + t * ab_sm0 b k
  | 0, _ => by
    unfold ab_sm0
    rw [Int.mul_zero]
    rfl
  | k + 1, h => by
    have ih := ab_sm0_lin k (fun i i0 i1 => h i i0 (by omega))
    have e := h k (by omega) (by omega)
    unfold ab_sm0
    rw [ih, e, Int.mul_add]
    omega
theorem ab_sm0_m {f g : Int → Int} : ∀ k : Nat, (∀ i : Int, 0 ≤ i → i < k → f i % 101 = g i % 101) → ab_sm0 f k % 101 = ab_sm0 g k % 101
  | 0, _ => rfl
  | k + 1, h => by
    have ih := ab_sm0_m k (fun i i0 i1 => h i i0 (by omega))
    have e := h k (by omega) (by omega)
    unfold ab_sm0
    omega
theorem ab_sm0_sw {f g : Int → Int} {r : Int} (h0 : 0 ≤ r) (h2 : g r = -f (r + 1)) (h3 : g (r + 1) = -f r) : ∀ k : Nat, (∀ i : Int, 0 ≤ i → i < k → i ≠ r → i ≠ r + 1 → g i = -f i) → ab_sm0 g k = -ab_sm0 f k + (if (k : Int) = r + 1 then f r - f (r + 1) else 0)
  | 0, _ => by
    rw [if_neg (by omega)]
    rfl
  | k + 1, h => by
    have ih := ab_sm0_sw h0 h2 h3 k (fun i i0 i1 => h i i0 (by omega))
    unfold ab_sm0
    rw [ih]
    by_cases e1 : (k : Int) = r
    · rw [if_neg (show ¬ (k : Int) = r + 1 by omega), if_pos (show ((k + 1 : Nat) : Int) = r + 1 by omega), e1, h2]
      omega
    · by_cases e2 : (k : Int) = r + 1
      · rw [if_pos e2, if_neg (show ¬ ((k + 1 : Nat) : Int) = r + 1 by omega), e2, h3]
        omega
      · rw [if_neg e2, if_neg (show ¬ ((k + 1 : Nat) : Int) = r + 1 by omega), h k (by omega) (by omega) e1 e2]
        omega
theorem ab_dd_lin {t : Int} : ∀ (n : Nat) (r : Int) (M A B : Int → Int → Int), 0 ≤ r → r < n → (∀ i c, i ≠ r → A i c = M i c ∧ B i c = M i c) → (∀ c, M r c = A r c + t * B r c) → ab_dd n M = ab_dd n A + t * ab_dd n B
  | 0, r, _, _, _, h0, h1, _, _ => absurd h0 (by omega)
  | n + 1, r, M, A, B, h0, h1, h2, h3 => by
    rw [ab_dd_s, ab_dd_s, ab_dd_s]
    refine ab_sm0_lin (n + 1) fun i i0 i1 => ?_
    unfold ab_dx
    by_cases e : i = r
    · have e1 : ab_mi i A = ab_mi i M := by
        funext a b
        exact (h2 _ _ (by split <;> omega)).1
      have e2 : ab_mi i B = ab_mi i M := by
        funext a b
        exact (h2 _ _ (by split <;> omega)).2
      rw [e1, e2, e, h3 0, Int.add_mul, Int.mul_add, Int.mul_assoc t, Int.mul_left_comm (ab_sgn r) t]
    · have ih : ab_dd n (ab_mi i M) = ab_dd n (ab_mi i A) + t * ab_dd n (ab_mi i B) := by
        by_cases d : r < i
        · refine ab_dd_lin n r _ _ _ h0 (by omega) (fun a c ha => h2 _ _ (by split <;> omega)) (fun c => ?_)
          unfold ab_mi
          rw [if_pos d]
          exact h3 _
        · refine ab_dd_lin n (r - 1) _ _ _ (by omega) (by omega) (fun a c ha => h2 _ _ (by split <;> omega)) (fun c => ?_)
          unfold ab_mi
          rw [if_neg (by omega), show r - 1 + 1 = r by omega]
          exact h3 _
      rw [(h2 i 0 e).1, (h2 i 0 e).2, ih, Int.mul_add, Int.mul_add, Int.mul_left_comm (M i 0) t, Int.mul_left_comm (ab_sgn i) t]
theorem ab_dd_m : ∀ (n : Nat) (M N : Int → Int → Int), (∀ r c : Int, 0 ≤ r → r < n → 0 ≤ c → c < n → M r c % 101 = N r c % 101) → ab_dd n M % 101 = ab_dd n N % 101
  | 0, _, _, _ => rfl
  | n + 1, M, N, h => by
    rw [ab_dd_s, ab_dd_s]
    refine ab_sm0_m (n + 1) fun i i0 i1 => ?_
    unfold ab_dx
    have ih := ab_dd_m n (ab_mi i M) (ab_mi i N) (fun r c r0 r1 c0 c1 => by
      unfold ab_mi
      exact h _ _ (by split <;> omega) (by split <;> omega) (by omega) (by omega))
    have e := h i 0 i0 (by omega) (by omega) (by omega)
    have e1 : (M i 0 * ab_dd n (ab_mi i M)) % 101 = (N i 0 * ab_dd n (ab_mi i N)) % 101 := by
      rw [Int.mul_emod, e, ih, ← Int.mul_emod]
    rw [Int.mul_emod, e1, ← Int.mul_emod]
theorem ab_dd_sw1 : ∀ (n : Nat) (r : Int) (M N : Int → Int → Int), 0 ≤ r → r + 1 < n → (∀ i c, i ≠ r → i ≠ r + 1 → N i c = M i c) → (∀ c, N r c = M (r + 1) c) → (∀ c, N (r + 1) c = M r c) → ab_dd n N = -ab_dd n M
  | 0, r, _, _, h0, h1, _, _, _ => absurd h0 (by omega)
  | n + 1, r, M, N, h0, h1, h2, h3, h4 => by
    rw [ab_dd_s, ab_dd_s]
    have a1 : ab_mi r N = ab_mi (r + 1) M := by
      funext a b
      unfold ab_mi
      by_cases c1 : a < r
      · rw [if_pos c1, if_pos (show a < r + 1 by omega)]
        exact h2 _ _ (by omega) (by omega)
      · rw [if_neg c1]
        by_cases c2 : a = r
        · rw [if_pos (show a < r + 1 by omega), c2]
          exact h4 _
        · rw [if_neg (show ¬ a < r + 1 by omega)]
          exact h2 _ _ (by omega) (by omega)
    have a2 : ab_mi (r + 1) N = ab_mi r M := by
      funext a b
      unfold ab_mi
      by_cases c1 : a < r
      · rw [if_pos c1, if_pos (show a < r + 1 by omega)]
        exact h2 _ _ (by omega) (by omega)
      · rw [if_neg c1]
        by_cases c2 : a = r
        · rw [if_pos (show a < r + 1 by omega), c2]
          exact h3 _
        · rw [if_neg (show ¬ a < r + 1 by omega)]
          exact h2 _ _ (by omega) (by omega)
    have s : ab_sgn (r + 1) = -ab_sgn r := by
      unfold ab_sgn
      split <;> split <;> omega
    have hi : ∀ i : Int, 0 ≤ i → i < ((n + 1 : Nat) : Int) → i ≠ r → i ≠ r + 1 → ab_dx n N i = -ab_dx n M i := by
      intro i i0 i1 e1 e2
      have ih : ab_dd n (ab_mi i N) = -ab_dd n (ab_mi i M) := by
        by_cases d : i < r
        · refine ab_dd_sw1 n (r - 1) _ _ (by omega) (by omega) (fun a c ha hb => h2 _ _ (by split <;> omega) (by split <;> omega)) (fun c => ?_) (fun c => ?_)
          · unfold ab_mi
            rw [if_neg (by omega), if_neg (by omega), show r - 1 + 1 = r by omega]
            exact h3 _
          · unfold ab_mi
            rw [if_neg (by omega), if_neg (by omega), show r - 1 + 1 = r by omega]
            exact h4 _
        · refine ab_dd_sw1 n r _ _ (by omega) (by omega) (fun a c ha hb => h2 _ _ (by split <;> omega) (by split <;> omega)) (fun c => ?_) (fun c => ?_)
          · unfold ab_mi
            rw [if_pos (by omega), if_pos (by omega)]
            exact h3 _
          · unfold ab_mi
            rw [if_pos (by omega), if_pos (by omega)]
            exact h4 _
      unfold ab_dx
      rw [h2 i 0 e1 e2, ih, Int.mul_neg, Int.mul_neg]
    have key := ab_sm0_sw (f := ab_dx n M) (g := ab_dx n N) (r := r) h0 (by
      unfold ab_dx
      rw [h3, a1, s, Int.neg_mul, Int.neg_neg]) (by
      unfold ab_dx
      rw [h4, a2, s, Int.neg_mul]) (n + 1) hi
    rw [if_neg (by omega)] at key
    rw [key, Int.add_zero]
theorem ab_dd_eq0 : ∀ (d n : Nat) (r : Int) (M : Int → Int → Int), 0 ≤ r → r + 1 + d < n → (∀ c, M r c = M (r + 1 + d) c) → ab_dd n M = 0
  | 0, n, r, M, h0, h1, h2 => by
    have h3 : ∀ c, M r c = M (r + 1) c := fun c => by
      have := h2 c
      rw [show r + 1 + ((0 : Nat) : Int) = r + 1 by omega] at this
      exact this
    have := ab_dd_sw1 n r M M h0 (by omega) (fun _ _ _ _ => rfl) h3 (fun c => (h3 c).symm)
    omega
  | d + 1, n, r, M, h0, h1, h2 => by
    have e := ab_dd_sw1 n (r + 1 + d) M (fun i c => if i = r + 1 + d then M (r + 1 + d + 1) c else if i = r + 1 + d + 1 then M (r + 1 + d) c else M i c) (by omega) (by omega) (fun i c c1 c2 => by
      show (if i = r + 1 + d then M (r + 1 + d + 1) c else if i = r + 1 + d + 1 then M (r + 1 + d) c else M i c) = M i c
      rw [if_neg c1, if_neg c2]) (fun c => if_pos rfl) (fun c => by
      show (if r + 1 + (d : Int) + 1 = r + 1 + d then M (r + 1 + d + 1) c else if r + 1 + (d : Int) + 1 = r + 1 + d + 1 then M (r + 1 + d) c else M (r + 1 + (d : Int) + 1) c) = M (r + 1 + d) c
      rw [if_neg (by omega), if_pos rfl])
    have z := ab_dd_eq0 d n r (fun i c => if i = r + 1 + d then M (r + 1 + d + 1) c else if i = r + 1 + d + 1 then M (r + 1 + d) c else M i c) h0 (by omega) (fun c => by
      show (if r = r + 1 + (d : Int) then M (r + 1 + d + 1) c else if r = r + 1 + (d : Int) + 1 then M (r + 1 + d) c else M r c) = (if r + 1 + (d : Int) = r + 1 + d then M (r + 1 + d + 1) c else if r + 1 + (d : Int) = r + 1 + d + 1 then M (r + 1 + d) c else M (r + 1 + (d : Int)) c)
      have := h2 c
      rw [show r + 1 + ((d + 1 : Nat) : Int) = r + 1 + d + 1 by omega] at this
      rw [if_neg (by omega), if_neg (by omega), if_pos rfl]
      exact this)
    omega
def ab_ur (M : Int → Int → Int) (r : Int) (v : Int → Int) : Int → Int → Int := fun i c => if i = r then v c else M i c
theorem ab_ur_e {M : Int → Int → Int} {r c : Int} {v : Int → Int} : ab_ur M r v r c = v c := if_pos rfl
theorem ab_ur_n {M : Int → Int → Int} {r i c : Int} {v : Int → Int} (h : i ≠ r) : ab_ur M r v i c = M i c := if_neg h
theorem ab_dd_add {n : Nat} {r q t : Int} {M : Int → Int → Int} (hr : 0 ≤ r ∧ r < n) (hq : 0 ≤ q ∧ q < n) (h : r ≠ q) : ab_dd n (ab_ur M r (fun c => M r c + t * M q c)) = ab_dd n M := by
  have e := ab_dd_lin (t := t) n r (ab_ur M r (fun c => M r c + t * M q c)) M (ab_ur M r (M q)) hr.1 hr.2 (fun i c hi => by rw [ab_ur_n hi, ab_ur_n hi]; exact ⟨rfl, rfl⟩) (fun c => by rw [ab_ur_e, ab_ur_e])
  have z : ab_dd n (ab_ur M r (M q)) = 0 := by
    by_cases c : r < q
    · refine ab_dd_eq0 (q - r - 1).toNat n r _ hr.1 (by omega) (fun c => ?_)
      rw [show r + 1 + ((q - r - 1).toNat : Int) = q by omega, ab_ur_e, ab_ur_n (Ne.symm h)]
    · refine ab_dd_eq0 (r - q - 1).toNat n q _ hq.1 (by omega) (fun c => ?_)
      rw [show q + 1 + ((r - q - 1).toNat : Int) = r by omega, ab_ur_e, ab_ur_n (Ne.symm h)]
  rw [e, z, Int.mul_zero, Int.add_zero]
theorem ab_dd_mul {n : Nat} {r t : Int} {M N : Int → Int → Int} (hr : 0 ≤ r ∧ r < n) (h1 : ∀ i c, i ≠ r → N i c = M i c) (h2 : ∀ c, N r c = t * M r c) : ab_dd n N = t * ab_dd n M := by
  have e := ab_dd_lin (t := t - 1) n r N M M hr.1 hr.2 (fun i c hi => ⟨(h1 i c hi).symm, (h1 i c hi).symm⟩) (fun c => by
    rw [h2, Int.sub_mul, Int.one_mul]
    omega)
  rw [e, Int.sub_mul, Int.one_mul]
  omega
theorem ab_dd_sw {n : Nat} {r q : Int} {M N : Int → Int → Int} (hr : 0 ≤ r ∧ r < n) (hq : 0 ≤ q ∧ q < n) (h : r ≠ q) (h1 : ∀ i c, i ≠ r → i ≠ q → N i c = M i c) (h2 : ∀ c, N r c = M q c) (h3 : ∀ c, N q c = M r c) : ab_dd n N = -ab_dd n M := by
  have e1 := ab_dd_add (M := M) (t := 1) hr hq h
  have e2 := ab_dd_add (M := ab_ur M r (fun c => M r c + 1 * M q c)) (t := -1) hq hr (Ne.symm h)
  have e3 := ab_dd_add (M := ab_ur (ab_ur M r (fun c => M r c + 1 * M q c)) q (fun c => ab_ur M r (fun c => M r c + 1 * M q c) q c + -1 * ab_ur M r (fun c => M r c + 1 * M q c) r c)) (t := 1) hr hq h
  have e4 : ab_dd n (ab_ur (ab_ur (ab_ur M r (fun c => M r c + 1 * M q c)) q (fun c => ab_ur M r (fun c => M r c + 1 * M q c) q c + -1 * ab_ur M r (fun c => M r c + 1 * M q c) r c)) r (fun c => ab_ur (ab_ur M r (fun c => M r c + 1 * M q c)) q (fun c => ab_ur M r (fun c => M r c + 1 * M q c) q c + -1 * ab_ur M r (fun c => M r c + 1 * M q c) r c) r c + 1 * ab_ur (ab_ur M r (fun c => M r c + 1 * M q c)) q (fun c => ab_ur M r (fun c => M r c + 1 * M q c) q c + -1 * ab_ur M r (fun c => M r c + 1 * M q c) r c) q c)) = -1 * ab_dd n N := by
    refine ab_dd_mul hq (fun i c hi => ?_) (fun c => ?_)
    · by_cases d : i = r
      · rw [d, ab_ur_e, ab_ur_n h, ab_ur_e, ab_ur_e, ab_ur_e, ab_ur_n (Ne.symm h), h2]
        omega
      · rw [ab_ur_n d, ab_ur_n hi, ab_ur_n d, h1 i c d hi]
    · rw [ab_ur_n (Ne.symm h), ab_ur_e, ab_ur_n (Ne.symm h), ab_ur_e, h3]
      omega
  omega
theorem ab_dd_cl {n : Nat} {M N : Int → Int → Int} {t : Int → Int} (h0 : ∀ c : Int, 0 ≤ c → c < n → N 0 c % 101 = M 0 c % 101) (h : ∀ r c : Int, 1 ≤ r → r < n → 0 ≤ c → c < n → N r c % 101 = (M r c + t r * M 0 c) % 101) : ab_dd n N % 101 = ab_dd n M % 101 := by
  have key : ∀ k : Nat, k ≤ n → ab_dd n (fun i c => if 1 ≤ i ∧ i < k then M i c + t i * M 0 c else M i c) = ab_dd n M := by
    intro k
    induction k with
    | zero =>
      intro _
      refine congrArg (ab_dd n) ?_
      funext i c
      rw [if_neg (by omega)]
    | succ k ih =>
      intro hk
      by_cases k0 : k = 0
      · refine congrArg (ab_dd n) ?_
        funext i c
        rw [if_neg (by omega)]
      · rw [← ih (by omega), ← ab_dd_add (M := fun i c => if 1 ≤ i ∧ i < k then M i c + t i * M 0 c else M i c) (r := k) (q := 0) (t := t k) ⟨by omega, by omega⟩ ⟨by omega, by omega⟩ (by omega)]
        refine congrArg (ab_dd n) ?_
        funext i c
        by_cases e : i = k
        · rw [if_pos (by omega), e, ab_ur_e]
          show _ = (if 1 ≤ (k : Int) ∧ (k : Int) < k then M k c + t k * M 0 c else M k c) + t k * (if 1 ≤ (0 : Int) ∧ (0 : Int) < k then M 0 c + t 0 * M 0 c else M 0 c)
          rw [if_neg (by omega), if_neg (by omega)]
        · rw [ab_ur_n e]
          show _ = (if 1 ≤ i ∧ i < (k : Int) then M i c + t i * M 0 c else M i c)
          by_cases d : 1 ≤ i ∧ i < k
          · rw [if_pos d, if_pos (by omega)]
          · rw [if_neg d, if_neg (by omega)]
  rw [← key n (Nat.le_refl n)]
  refine ab_dd_m n _ _ fun r c r0 r1 c0 c1 => ?_
  by_cases d : r = 0
  · rw [d, if_neg (by omega)]
    exact h0 c c0 c1
  · rw [if_pos (by omega)]
    exact h r c (by omega) r1 c0 c1
theorem ab_dd_ex {n : Nat} {M : Int → Int → Int} (h : ∀ i : Int, 1 ≤ i → i < ((n + 1 : Nat) : Int) → M i 0 % 101 = 0) : ab_dd (n + 1) M % 101 = (M 0 0 * ab_dd n (ab_mi 0 M)) % 101 := by
  rw [ab_dd_s]
  have key : ∀ k : Nat, k ≤ n → ab_sm0 (ab_dx n M) (k + 1) % 101 = ab_dx n M 0 % 101 := by
    intro k
    induction k with
    | zero =>
      intro _
      show (0 + ab_dx n M 0) % 101 = _
      rw [Int.zero_add]
    | succ k ih =>
      intro hk
      have ih := ih (by omega)
      have z : ab_dx n M ((k + 1 : Nat) : Int) % 101 = 0 := by
        unfold ab_dx
        have : (M ((k + 1 : Nat) : Int) 0 * ab_dd n (ab_mi ((k + 1 : Nat) : Int) M)) % 101 = 0 := by
          rw [Int.mul_emod, h _ (by omega) (by omega), Int.zero_mul]
          rfl
        rw [Int.mul_emod, this, Int.mul_zero]
        rfl
      rw [ab_sm0]
      omega
  rw [key n (Nat.le_refl n)]
  unfold ab_dx ab_sgn
  rw [if_pos (by decide), Int.one_mul]
/-- what elimination leaves in its product is the determinant -/
def ab_sb (k : Int) (M : Int → Int → Int) : Int → Int → Int := fun r c => M (k + r) (k + c)
theorem ab_rd_tail {N : Int → Int → Int} {k R P : Int} {n : Nat} (hv : ab_v2 N) (hk : 0 ≤ k) (hR : R = k + (n + 1)) (hR7 : R ≤ 7) (hp : N k k ≠ 0) :
    ((P * N k k % 101) * ab_dd n (ab_sb (k + 1) (ab_cl (ab_mw N k (ab_inv (N k k)) R) k k R R.toNat))) % 101 = (P * ab_dd (n + 1) (ab_sb k N)) % 101 := by
  have hpr := hv k k hk (by omega) hk (by omega)
  have him := ab_inv_m (x := N k k) (by omega) (by omega)
  revert him
  generalize ab_inv (N k k) = y
  intro him
  have hN1 : ∀ r c : Int, 0 ≤ c → c < n + 1 → ab_mw N k y R (k + r) (k + c) = if r = 0 then N k (k + c) * y % 101 else N (k + r) (k + c) := by
    intro r c c0 c1
    unfold ab_mw
    by_cases e : r = 0
    · rw [if_pos e, if_pos (by omega), show k + r = k by omega]
    · rw [if_neg e, if_neg (by omega)]
  have h11 : ab_mw N k y R k k = 1 := by
    have := hN1 0 0 (by omega) (by omega)
    rw [if_pos rfl, Int.add_zero] at this
    rw [this, him]
  have hN2 := ab_cl_row (M := ab_mw N k y R) (col := k) (pr := k) (C := R) R.toNat
  have d1 : ab_dd (n + 1) (ab_sb k (ab_cl (ab_mw N k y R) k k R R.toNat)) % 101 = ab_dd (n + 1) (ab_sb k (ab_mw N k y R)) % 101 := by
    refine ab_dd_cl (t := fun r => if ab_mw N k y R (k + r) k = 0 then 0 else 101 - ab_mw N k y R (k + r) k) (fun c c0 c1 => ?_) (fun r c r0 r1 c0 c1 => ?_)
    · unfold ab_sb
      rw [hN2, if_neg (by omega)]
    · unfold ab_sb
      rw [hN2]
      by_cases z : ab_mw N k y R (k + r) k = 0
      · rw [if_neg (fun w => w.2.2.2.1 z), if_pos z, Int.zero_mul, Int.add_zero]
      · rw [if_neg z, if_pos ⟨by omega, by omega, by omega, z, by omega, by omega⟩, Int.emod_emod, Int.add_zero]
  have d2 : ab_dd (n + 1) (ab_sb k (ab_mw N k y R)) % 101 = (y * ab_dd (n + 1) (ab_sb k N)) % 101 := by
    rw [← ab_dd_mul (n := n + 1) (r := 0) (t := y) (M := ab_sb k N) (N := ab_ur (ab_sb k N) 0 (fun c => y * ab_sb k N 0 c)) ⟨by omega, by omega⟩ (fun i c hi => ab_ur_n hi) (fun c => ab_ur_e)]
    refine ab_dd_m _ _ _ fun r c r0 r1 c0 c1 => ?_
    have := hN1 r c c0 (by omega)
    unfold ab_sb
    rw [this]
    by_cases e : r = 0
    · rw [if_pos e, e, ab_ur_e, Int.add_zero, Int.emod_emod, Int.mul_comm]
    · rw [if_neg e, ab_ur_n e]
  have d3 : ab_dd (n + 1) (ab_sb k (ab_cl (ab_mw N k y R) k k R R.toNat)) % 101 = ab_dd n (ab_sb (k + 1) (ab_cl (ab_mw N k y R) k k R R.toNat)) % 101 := by
    rw [ab_dd_ex (fun i i0 i1 => ?_)]
    · have e0 : ab_sb k (ab_cl (ab_mw N k y R) k k R R.toNat) 0 0 = 1 := by
        unfold ab_sb
        rw [Int.add_zero, hN2, if_neg (fun w => w.2.2.1 rfl), h11]
      rw [e0, Int.one_mul]
      refine ab_dd_m _ _ _ fun r c r0 r1 c0 c1 => ?_
      unfold ab_mi ab_sb
      rw [if_neg (by omega), show k + (r + 1) = k + 1 + r by omega, show k + (c + 1) = k + 1 + c by omega]
    · unfold ab_sb
      rw [Int.add_zero, hN2, h11, Int.mul_one]
      by_cases z : ab_mw N k y R (k + i) k = 0
      · rw [if_neg (fun w => w.2.2.2.1 z), z]
        rfl
      · rw [if_pos ⟨by omega, by omega, by omega, z, by omega, by omega⟩, Int.emod_emod]
        omega
  have d4 := (d3.symm.trans d1).trans d2
  rw [Int.mul_emod, Int.emod_emod, d4, ← Int.mul_emod, Int.mul_assoc, Int.mul_emod P, ← Int.mul_assoc (N k k), Int.mul_emod (N k k * y), him, Int.one_mul, Int.emod_emod, ← Int.mul_emod]
theorem ab_rd_det {R : Int} {M : Int → Int → Int} {g : Int → Int} (hR : 0 ≤ R ∧ R ≤ 7) (hv : ab_v2 M) : ∀ k : Nat, (k : Int) ≤ R → ((ab_rd R R M g k).2.2.1 = k ∧ ab_dd R.toNat M % 101 = ((ab_rd R R M g k).2.2.2 * ab_dd (R - k).toNat (ab_sb k (ab_rd R R M g k).1)) % 101) ∨ ((ab_rd R R M g k).2.2.2 = 0 ∧ ab_dd R.toNat M % 101 = 0)
  | 0, _ => by
    left
    refine ⟨rfl, ?_⟩
    show _ = (1 * ab_dd (R - ((0 : Nat) : Int)).toNat (ab_sb ((0 : Nat) : Int) M)) % 101
    rw [Int.one_mul, show R - ((0 : Nat) : Int) = R by omega]
    refine congrArg (fun M => ab_dd R.toNat M % 101) ?_
    funext r c
    unfold ab_sb
    rw [show ((0 : Nat) : Int) + r = r by omega, show ((0 : Nat) : Int) + c = c by omega]
  | k + 1, hk => by
    have ih := ab_rd_det (g := g) hR hv k (by omega)
    have ok := ab_rd_ok (C := R) (g := g) hR.1 (by omega) hv k
    rw [ab_rd]
    revert ih ok
    generalize ab_rd R R M g k = z
    obtain ⟨N, g', F, P⟩ := z
    intro ih ok
    obtain ⟨o1, o2, o3, o4, o5⟩ := ok
    simp only at o1 o2 o3 o4 o5 ih ⊢
    have hpv := ab_pv_r (M := N) (c := k) (R - F).toNat F
    rcases ih with ⟨i1, i2⟩ | ⟨i1, i2⟩
    · subst i1
      have en : (R - (k : Int)).toNat = (R - ((k + 1 : Nat) : Int)).toNat + 1 := by omega
      rw [en] at i2
      have ck : ((k + 1 : Nat) : Int) = (k : Int) + 1 := by omega
      unfold ab_rdx
      simp only
      by_cases c1 : ab_pv N k k (R - k).toNat < 0
      · rw [if_pos c1]
        right
        refine ⟨rfl, ?_⟩
        have hz := ab_pv_lt (M := N) (c := k) (R - k).toNat k (by omega) c1
        rw [i2, Int.mul_emod, ab_dd_ex (fun i i0 i1 => by
          unfold ab_sb
          rw [Int.add_zero, hz _ (by omega) (by omega)]
          rfl)]
        unfold ab_sb
        rw [Int.add_zero, hz k (by omega) (by omega), Int.zero_mul]
        show (P % 101 * (0 % 101)) % 101 = 0
        rw [show (0 : Int) % 101 = 0 from rfl, Int.mul_zero]
        rfl
      · rw [if_neg c1]
        have hp3 : (k : Int) ≤ ab_pv N k k (R - k).toNat ∧ ab_pv N k k (R - k).toNat < R ∧ N (ab_pv N k k (R - k).toNat) k ≠ 0 := by
          rcases hpv with e | ⟨e1, e2, e3⟩
          · omega
          · exact ⟨e1, by omega, e3⟩
        by_cases c2 : ab_pv N k k (R - k).toNat = k
        · rw [if_pos c2]
          left
          refine ⟨by simp only; omega, ?_⟩
          rw [c2] at hp3
          have t := ab_rd_tail (P := P) (n := (R - ((k + 1 : Nat) : Int)).toNat) (R := R) o1 (by omega) (by omega) hR.2 hp3.2.2
          rw [ck] at t
          rw [i2, ck]
          exact t.symm
        · rw [if_neg c2]
          left
          refine ⟨by simp only; omega, ?_⟩
          have v1 : ab_v2 (ab_sw N (ab_pv N k k (R - k).toNat) k R) := ab_v2_sw o1 ⟨by omega, by omega⟩ ⟨by omega, by omega⟩
          have e00 : ab_sw N (ab_pv N k k (R - k).toNat) k R k k = N (ab_pv N k k (R - k).toNat) k := by
            unfold ab_sw
            rw [if_pos ⟨by omega, by omega⟩, if_neg (Ne.symm c2), if_pos rfl]
          have t := ab_rd_tail (P := -P % 101) (n := (R - ((k + 1 : Nat) : Int)).toNat) (R := R) v1 (by omega) (by omega) hR.2 (by rw [e00]; exact hp3.2.2)
          have sw : ab_dd ((R - ((k + 1 : Nat) : Int)).toNat + 1) (ab_sb k (ab_sw N (ab_pv N k k (R - k).toNat) k R)) % 101 = (-ab_dd ((R - ((k + 1 : Nat) : Int)).toNat + 1) (ab_sb k N)) % 101 := by
            rw [← ab_dd_sw (r := 0) (q := ab_pv N k k (R - k).toNat - k) (M := ab_sb k N) (N := fun i c => if i = 0 then ab_sb k N (ab_pv N k k (R - k).toNat - k) c else if i = ab_pv N k k (R - k).toNat - k then ab_sb k N 0 c else ab_sb k N i c) ⟨by omega, by omega⟩ ⟨by omega, by omega⟩ (by omega) (fun i c d1 d2 => by
              show (if i = 0 then _ else if i = ab_pv N k k (R - k).toNat - k then _ else _) = _
              rw [if_neg d1, if_neg d2]) (fun c => if_pos rfl) (fun c => by
              show (if ab_pv N k k (R - k).toNat - k = 0 then _ else if ab_pv N k k (R - k).toNat - k = ab_pv N k k (R - k).toNat - k then _ else _) = _
              rw [if_neg (by omega), if_pos rfl])]
            refine ab_dd_m _ _ _ fun r c r0 r1 d0 d1 => ?_
            unfold ab_sb ab_sw
            rw [if_pos ⟨by omega, by omega⟩]
            by_cases e1 : r = 0
            · rw [if_pos e1, e1, Int.add_zero, if_neg (Ne.symm c2), if_pos rfl, show (k : Int) + (ab_pv N k k (R - k).toNat - k) = ab_pv N k k (R - k).toNat by omega]
            · rw [if_neg e1]
              by_cases e2 : r = ab_pv N k k (R - k).toNat - k
              · rw [if_pos e2, if_pos (by omega), Int.add_zero]
              · rw [if_neg e2, if_neg (by omega), if_neg (by omega)]
          rw [ck] at t sw
          rw [i2, ck]
          refine Eq.trans ?_ t.symm
          rw [Int.mul_emod (-P % 101), Int.emod_emod, sw, ← Int.mul_emod, Int.neg_mul_neg]
    · right
      unfold ab_rdx
      simp only [i1]
      split
      · exact ⟨rfl, i2⟩
      · split
        · exact ⟨by rw [Int.zero_mul]; rfl, i2⟩
        · exact ⟨by rw [show (-0 : Int) % 101 = 0 from rfl, Int.zero_mul]; rfl, i2⟩
theorem ab_rd_dt {R : Int} {M : Int → Int → Int} {g : Int → Int} (hR : 0 ≤ R ∧ R ≤ 7) (hv : ab_v2 M) : (ab_rd R R M g R.toNat).2.2.2 % 101 = ab_dd R.toNat M % 101 := by
  have e : ((R.toNat : Nat) : Int) = R := Int.toNat_of_nonneg hR.1
  rcases ab_rd_det (g := g) hR hv R.toNat (by omega) with ⟨_, h⟩ | ⟨h1, h2⟩
  · rw [h, e, Int.sub_self]
    show _ = (_ * 1) % 101
    rw [Int.mul_one]
  · rw [h1, h2]
    rfl
