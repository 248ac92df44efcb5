/-! ===== elimination ends in one way only ===== -/
def ab_dt (f x : Int → Int) : Nat → Int
  | 0 => 0
  | k + 1 => ab_dt f x k + f k * x k
theorem ab_dt_cg {f f' x : Int → Int} : ∀ k : Nat, (∀ c : Int, 0 ≤ c → c < k → f c = f' c) → ab_dt f x k = ab_dt f' x k
  | 0, _ => rfl
  | k + 1, h => by
    have ih := ab_dt_cg (x := x) k (fun c c0 c1 => h c c0 (by omega))
    unfold ab_dt
    rw [ih, h k (by omega) (by omega)]
theorem ab_em {a b : Int} : (a % 101 * b) % 101 = (a * b) % 101 := by
  rw [Int.mul_emod, Int.emod_emod, ← Int.mul_emod]
theorem ab_dt_mw {f f' x : Int → Int} {y : Int} : ∀ k : Nat, (∀ c : Int, 0 ≤ c → c < k → f' c = f c * y % 101) → ab_dt f' x k % 101 = (y * ab_dt f x k) % 101
  | 0, _ => by
    unfold ab_dt
    rw [Int.mul_zero]
  | k + 1, h => by
    have ih := ab_dt_mw (x := x) k (fun c c0 c1 => h c c0 (by omega))
    unfold ab_dt
    have e : (f' k * x k) % 101 = (y * (f k * x k)) % 101 := by
      rw [h k (by omega) (by omega), ab_em, Int.mul_comm (f k) y, Int.mul_assoc]
    rw [Int.mul_add]
    revert ih e
    generalize y * ab_dt f x k = A
    generalize ab_dt f' x k = A'
    generalize f' k * x k = B'
    generalize y * (f k * x k) = B
    intro ih e
    omega
theorem ab_dt_cw {f f' p x : Int → Int} {t : Int} : ∀ k : Nat, (∀ c : Int, 0 ≤ c → c < k → f' c = (f c + t * p c) % 101) → ab_dt f' x k % 101 = (ab_dt f x k + t * ab_dt p x k) % 101
  | 0, _ => by
    unfold ab_dt
    rw [Int.mul_zero]
    rfl
  | k + 1, h => by
    have ih := ab_dt_cw (x := x) k (fun c c0 c1 => h c c0 (by omega))
    unfold ab_dt
    have e : (f' k * x k) % 101 = (f k * x k + t * (p k * x k)) % 101 := by
      rw [h k (by omega) (by omega), ab_em, Int.add_mul, Int.mul_assoc]
    rw [Int.mul_add]
    revert ih e
    generalize t * ab_dt p x k = A
    generalize ab_dt f' x k = A'
    generalize ab_dt f x k = D
    generalize f' k * x k = B'
    generalize f k * x k = B
    generalize t * (p k * x k) = E
    intro ih e
    omega
theorem ab_dt2 {f x : Int → Int} {a b : Int} (ha : 0 ≤ a) (hb : 0 ≤ b) (hab : a ≠ b) : ∀ k : Nat, (∀ c : Int, 0 ≤ c → c < k → c ≠ a → c ≠ b → f c * x c = 0) → ab_dt f x k = (if a < k then f a * x a else 0) + (if b < k then f b * x b else 0)
  | 0, _ => by
    unfold ab_dt
    rw [if_neg (by omega), if_neg (by omega)]
    rfl
  | k + 1, h => by
    have ih := ab_dt2 ha hb hab k (fun c c0 c1 => h c c0 (by omega))
    unfold ab_dt
    rw [ih]
    by_cases ea : a = k
    · rw [if_neg (show ¬ a < (k : Int) by omega), if_pos (show a < ((k + 1 : Nat) : Int) by omega), ← ea]
      by_cases eb : b < a
      · rw [if_pos eb, if_pos (by omega)]; omega
      · rw [if_neg eb, if_neg (by omega)]; omega
    · by_cases eb : b = k
      · rw [if_neg (show ¬ b < (k : Int) by omega), if_pos (show b < ((k + 1 : Nat) : Int) by omega), ← eb]
        by_cases ec : a < b
        · rw [if_pos ec, if_pos (by omega)]; omega
        · rw [if_neg ec, if_neg (by omega)]; omega
      · rw [h k (by omega) (by omega) (Ne.symm ea) (Ne.symm eb), Int.add_zero]
        by_cases c1 : a < (k : Int)
        · rw [if_pos c1, if_pos (show a < ((k + 1 : Nat) : Int) by omega)]
          by_cases c2 : b < (k : Int)
          · rw [if_pos c2, if_pos (by omega)]
          · rw [if_neg c2, if_neg (by omega)]
        · rw [if_neg c1, if_neg (show ¬ a < ((k + 1 : Nat) : Int) by omega)]
          by_cases c2 : b < (k : Int)
          · rw [if_pos c2, if_pos (by omega)]
          · rw [if_neg c2, if_neg (by omega)]
theorem ab_dt1 {f x : Int → Int} {a : Int} (ha : 0 ≤ a) {k : Nat} (hk : a < k) (h : ∀ c : Int, 0 ≤ c → c < k → c ≠ a → f c * x c = 0) : ab_dt f x k = f a * x a := by
  have := ab_dt2 (f := f) (x := x) (b := k) ha (by omega) (by omega) k (fun c c0 c1 e _ => h c c0 c1 e)
  rw [this, if_pos hk, if_neg (by omega), Int.add_zero]
theorem ab_dt0 {f x : Int → Int} : ∀ k : Nat, (∀ c : Int, 0 ≤ c → c < k → f c * x c = 0) → ab_dt f x k = 0
  | 0, _ => rfl
  | k + 1, h => by
    unfold ab_dt
    rw [ab_dt0 k (fun c c0 c1 => h c c0 (by omega)), h k (by omega) (by omega)]
    rfl
/-- what a matrix takes to 0 -/
def ab_ker (M : Int → Int → Int) (R : Int) (C : Nat) (x : Int → Int) : Prop := ∀ r, 0 ≤ r → r < R → ab_dt (M r) x C % 101 = 0
theorem ab_ker_sw {M : Int → Int → Int} {R r q : Int} {C : Nat} {x : Int → Int} (hr : 0 ≤ r ∧ r < R) (hq : 0 ≤ q ∧ q < R) : ab_ker (ab_sw M r q C) R C x ↔ ab_ker M R C x := by
  have e : ∀ a, ab_dt (ab_sw M r q C a) x C = ab_dt (M (if a = r then q else if a = q then r else a)) x C := fun a => by
    refine ab_dt_cg C (fun c c0 c1 => ?_)
    unfold ab_sw
    rw [if_pos ⟨c0, c1⟩]
    by_cases e1 : a = r
    · rw [if_pos e1, if_pos e1]
    · rw [if_neg e1, if_neg e1]
      by_cases e2 : a = q
      · rw [if_pos e2, if_pos e2]
      · rw [if_neg e2, if_neg e2]
  constructor
  · intro h a a0 a1
    by_cases e1 : a = r
    · have := h q hq.1 hq.2
      rw [e] at this
      by_cases e2 : q = r
      · rw [if_pos e2, e2] at this
        rw [e1]; exact this
      · rw [if_neg e2, if_pos rfl] at this
        rw [e1]; exact this
    · by_cases e2 : a = q
      · have := h r hr.1 hr.2
        rw [e, if_pos rfl] at this
        rw [e2]; exact this
      · have := h a a0 a1
        rw [e, if_neg e1, if_neg e2] at this
        exact this
  · intro h a a0 a1
    rw [e]
    by_cases e1 : a = r
    · rw [if_pos e1]; exact h q hq.1 hq.2
    · rw [if_neg e1]
      by_cases e2 : a = q
      · rw [if_pos e2]; exact h r hr.1 hr.2
      · rw [if_neg e2]; exact h a a0 a1
theorem ab_ker_mw {M : Int → Int → Int} {R r y z : Int} {C : Nat} {x : Int → Int} (hyz : z * y % 101 = 1) : ab_ker (ab_mw M r y C) R C x ↔ ab_ker M R C x := by
  have e1 : ab_dt (ab_mw M r y C r) x C % 101 = (y * ab_dt (M r) x C) % 101 := ab_dt_mw C (fun c c0 c1 => if_pos ⟨rfl, c0, c1⟩)
  have e2 : ∀ a, a ≠ r → ab_dt (ab_mw M r y C a) x C = ab_dt (M a) x C := fun a ha => ab_dt_cg C (fun c c0 c1 => if_neg (fun z => ha z.1))
  have e3 : (y * ab_dt (M r) x C) % 101 = 0 ↔ ab_dt (M r) x C % 101 = 0 := by
    constructor
    · intro h
      have : (z * y * ab_dt (M r) x C) % 101 = 0 := by
        rw [Int.mul_assoc, Int.mul_emod, h, Int.mul_zero]; rfl
      rw [Int.mul_emod, hyz, Int.one_mul, Int.emod_emod] at this
      exact this
    · intro h
      rw [Int.mul_emod, h, Int.mul_zero]; rfl
  constructor
  · intro h a a0 a1
    have := h a a0 a1
    by_cases e : a = r
    · rw [e] at this ⊢
      exact e3.mp (e1.symm.trans this)
    · rw [e2 a e] at this; exact this
  · intro h a a0 a1
    have := h a a0 a1
    by_cases e : a = r
    · rw [e] at this ⊢
      exact e1.trans (e3.mpr this)
    · rw [e2 a e]; exact this
theorem ab_ker_cw {M : Int → Int → Int} {R r pr t : Int} {C : Nat} {x : Int → Int} (hp : 0 ≤ pr ∧ pr < R) (hne : r ≠ pr) : ab_ker (ab_cw M r pr t C) R C x ↔ ab_ker M R C x := by
  have e1 : ab_dt (ab_cw M r pr t C r) x C % 101 = (ab_dt (M r) x C + t * ab_dt (M pr) x C) % 101 := ab_dt_cw C (fun c c0 c1 => if_pos ⟨rfl, c0, c1⟩)
  have e2 : ∀ a, a ≠ r → ab_dt (ab_cw M r pr t C a) x C = ab_dt (M a) x C := fun a ha => ab_dt_cg C (fun c c0 c1 => if_neg (fun z => ha z.1))
  have e3 : ab_dt (M pr) x C % 101 = 0 → ((ab_dt (M r) x C + t * ab_dt (M pr) x C) % 101 = 0 ↔ ab_dt (M r) x C % 101 = 0) := by
    intro h
    have : (t * ab_dt (M pr) x C) % 101 = 0 := by
      rw [Int.mul_emod, h, Int.mul_zero]; rfl
    omega
  constructor
  · intro h a a0 a1
    have hpr := h pr hp.1 hp.2
    rw [e2 pr (Ne.symm hne)] at hpr
    have := h a a0 a1
    by_cases e : a = r
    · rw [e] at this ⊢
      exact (e3 hpr).mp (e1.symm.trans this)
    · rw [e2 a e] at this; exact this
  · intro h a a0 a1
    have hpr := h pr hp.1 hp.2
    have := h a a0 a1
    by_cases e : a = r
    · rw [e] at this ⊢
      exact e1.trans ((e3 hpr).mpr this)
    · rw [e2 a e]; exact this
theorem ab_ker_cl {M : Int → Int → Int} {R col pr : Int} {C : Nat} {x : Int → Int} (hp : 0 ≤ pr ∧ pr < R) : ∀ k : Nat, ab_ker (ab_cl M col pr C k) R C x ↔ ab_ker M R C x
  | 0 => Iff.rfl
  | k + 1 => by
    have ih := ab_ker_cl (M := M) (col := col) (C := C) (x := x) hp k
    unfold ab_cl
    by_cases c : (k : Int) = pr ∨ ab_cl M col pr C k k col = 0
    · rw [if_pos c]; exact ih
    · rw [if_neg c]
      exact (ab_ker_cw hp (fun z => c (Or.inl z))).trans ih
/-- what clearing has done to a row -/
theorem ab_cl_row {M : Int → Int → Int} {col pr : Int} {C : Int} : ∀ (k : Nat) (a b : Int), ab_cl M col pr C k a b = if 0 ≤ a ∧ a < k ∧ a ≠ pr ∧ M a col ≠ 0 ∧ 0 ≤ b ∧ b < C then (M a b + (101 - M a col) * M pr b) % 101 else M a b
  | 0, a, b => by
    rw [if_neg (fun z => by omega)]
    rfl
  | k + 1, a, b => by
    have ih := ab_cl_row (M := M) (col := col) (pr := pr) (C := C) k
    have hk : ∀ b, ab_cl M col pr C k k b = M k b := fun b => by rw [ih, if_neg (fun z => by omega)]
    have hp : ∀ b, ab_cl M col pr C k pr b = M pr b := fun b => by rw [ih, if_neg (fun z => z.2.2.1 rfl)]
    unfold ab_cl
    rw [hk]
    by_cases c : (k : Int) = pr ∨ M k col = 0
    · rw [if_pos c, ih]
      by_cases d : 0 ≤ a ∧ a < (k : Int) ∧ a ≠ pr ∧ M a col ≠ 0 ∧ 0 ≤ b ∧ b < C
      · rw [if_pos d, if_pos ⟨d.1, by omega, d.2.2⟩]
      · rw [if_neg d, if_neg]
        intro z
        refine d ⟨z.1, ?_, z.2.2⟩
        by_cases e : a = k
        · rcases c with c | c
          · exact absurd (e.trans c) z.2.2.1
          · exact absurd (by rw [e]; exact c) z.2.2.2.1
        · omega
    · rw [if_neg c]
      unfold ab_cw
      by_cases e : a = k
      · rw [e]
        by_cases d : 0 ≤ b ∧ b < C
        · rw [if_pos ⟨rfl, d⟩, if_pos ⟨by omega, by omega, fun z => c (Or.inl z), fun z => c (Or.inr z), d⟩, hk, hp]
        · rw [if_neg (fun z => d z.2), if_neg (fun z => d z.2.2.2.2), hk]
      · rw [if_neg (fun z => e z.1), ih]
        by_cases d : 0 ≤ a ∧ a < (k : Int) ∧ a ≠ pr ∧ M a col ≠ 0 ∧ 0 ≤ b ∧ b < C
        · rw [if_pos d, if_pos ⟨d.1, by omega, d.2.2⟩]
        · rw [if_neg d, if_neg (fun z => d ⟨z.1, by omega, z.2.2⟩)]
theorem ab_inv_m {x : Int} (h0 : 1 ≤ x) (h1 : x < 101) : x * ab_inv x % 101 = 1 := by
  have := ab_tb_all (P := fun x => x = 0 ∨ x * ab_inv x % 101 = 1) (m := 101) (by decide +kernel) (i := x) (by omega) h1
  omega
