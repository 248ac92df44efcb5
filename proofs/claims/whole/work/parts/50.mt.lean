/-! ===== the model's tables, purely ===== -/
def ab_NUM : Int → Int := ab_tb [0, 0, 0, 0, 0, 1, 0, 0, 0, 0, 2, 0, 0, 0, 0, 1, 1, 0, 0, 0, 3, 0, 0, 0, 0, 2, 1, 0, 0, 0, 1, 1, 1, 0, 0, 4, 0, 0, 0, 0, 3, 1, 0, 0, 0, 2, 2, 0, 0, 0, 2, 1, 1, 0, 0, 1, 1, 1, 1, 0, 5, 0, 0, 0, 0, 4, 1, 0, 0, 0, 3, 2, 0, 0, 0, 3, 1, 1, 0, 0, 2, 2, 1, 0, 0, 2, 1, 1, 1, 0, 1, 1, 1, 1, 1]
/-- one more than the degree of an entry in the weight at most; 0: the entry is 0 -/
def ab_DG : Int → Int := ab_tb [2, 1, 1, 0, 1, 0, 0, 1, 0, 0, 0, 0, 1, 0, 0, 0, 0, 0, 0, 2, 2, 0, 1, 0, 1, 0, 0, 1, 0, 0, 0, 0, 1, 0, 0, 0, 0, 0, 2, 1, 2, 0, 1, 1, 0, 0, 0, 1, 0, 0, 0, 0, 1, 0, 0, 0, 0, 2, 2, 0, 2, 0, 0, 1, 0, 0, 0, 1, 0, 0, 0, 0, 1, 0, 0, 0, 2, 1, 1, 0, 2, 0, 0, 1, 1, 0, 0, 0, 1, 0, 1, 0, 0, 0, 0, 2, 2, 2, 1, 0, 2, 0, 0, 1, 0, 1, 0, 0, 0, 0, 0, 1, 0, 0, 2, 2, 0, 2, 0, 0, 2, 0, 0, 0, 0, 1, 0, 0, 0, 0, 0, 1, 0, 2, 1, 1, 0, 1, 0, 0, 2, 0, 0, 0, 0, 1, 1, 0, 0, 0, 0, 0, 2, 2, 0, 1, 2, 1, 0, 0, 2, 0, 0, 0, 0, 1, 0, 1, 0, 0, 0, 2, 1, 2, 0, 1, 1, 0, 0, 0, 2, 0, 0, 1, 0, 1, 0, 1, 0, 0, 2, 2, 2, 2, 0, 2, 1, 0, 0, 0, 2, 0, 0, 0, 0, 1, 0, 1, 0, 2, 2, 0, 2, 0, 0, 2, 0, 0, 0, 0, 2, 0, 0, 0, 0, 0, 0, 1, 2, 1, 1, 0, 1, 0, 0, 1, 0, 0, 0, 0, 2, 0, 0, 0, 0, 0, 0, 2, 2, 0, 1, 0, 1, 0, 2, 1, 0, 0, 0, 0, 2, 0, 0, 0, 0, 0, 2, 1, 2, 0, 2, 1, 0, 0, 1, 1, 0, 0, 0, 0, 2, 0, 0, 0, 0, 2, 2, 0, 2, 2, 0, 1, 0, 2, 0, 1, 0, 0, 0, 0, 2, 0, 0, 0, 2, 2, 2, 1, 0, 2, 0, 0, 1, 2, 1, 0, 0, 0, 0, 0, 2, 0, 0, 2, 2, 2, 2, 0, 2, 2, 0, 0, 0, 2, 1, 0, 0, 0, 0, 0, 2, 0, 2, 2, 0, 2, 0, 0, 2, 0, 0, 0, 0, 2, 0, 0, 0, 0, 0, 0, 2]
def ab_dgx (b c : Int) : Int := ab_DG (b * 19 + c)
def ab_dgm (r c s d : Int) : Nat → Bool
  | 0 => true
  | k + 1 => ab_dgm r c s d k && (decide (ab_dgx r (s + k) ≤ 0) || (decide (ab_dgx (s + k) c ≤ 0) || decide (ab_dgx r (s + k) + ab_dgx (s + k) c - 1 ≤ d)))
/-- the table of degrees is closed -/
def ab_dgok (b c : Int) : Bool :=
  if b = 0 then decide ((if c = ab_START (ab_LV c) then (if ab_LV c = 0 then (2 : Int) else 1) else 0) ≤ ab_dgx b c)
  else if ab_FIRST b ≤ -(ab_LV b - ab_LV c) then decide ((if c = ab_jn (-(ab_LV b - ab_LV c)) b (ab_START (ab_LV c)) (ab_wd (ab_LV c)).toNat then (1 : Int) else 0) ≤ ab_dgx b c)
  else (if 0 ≤ ab_LV c - ab_FIRST b then ab_dgm (ab_REST b) c (ab_START (ab_LV c - ab_FIRST b)) (ab_dgx b c) (ab_wd (ab_LV c - ab_FIRST b)).toNat else true) && decide (ab_dgx (ab_REST b) c ≤ ab_dgx b c) && (if ab_LV b - ab_LV c = ab_FIRST b ∧ c = ab_REST b then decide (1 ≤ ab_dgx b c) else true)
theorem ab_dg_ok {b c : Int} (hb : ab_bb b) (hc : ab_bb c) : ab_dgok b c = true := by
  have := ab_tb_all (P := fun b => ∀ k : Fin 19, ab_dgok b k.val = true) (m := 19) (by decide +kernel) hb.1 hb.2 ⟨c.toNat, by have := hc.1; have := hc.2; omega⟩
  simp only [Int.toNat_of_nonneg hc.1] at this
  exact this
theorem ab_dg_r {b c : Int} (hb : ab_bb b) (hc : ab_bb c) : 0 ≤ ab_dgx b c ∧ ab_dgx b c ≤ 2 ∧ (ab_LV b < ab_LV c → ab_dgx b c ≤ 1) := by
  have := ab_tb_all (P := fun b => ∀ k : Fin 19, 0 ≤ ab_dgx b k.val ∧ ab_dgx b k.val ≤ 2 ∧ (ab_LV b < ab_LV k.val → ab_dgx b k.val ≤ 1)) (m := 19) (by decide +kernel) hb.1 hb.2 ⟨c.toNat, by have := hc.1; have := hc.2; omega⟩
  simp only [Int.toNat_of_nonneg hc.1] at this
  exact this
theorem ab_dgm_at {r c s d : Int} : ∀ k : Nat, ab_dgm r c s d k = true → ∀ i : Int, 0 ≤ i → i < k → ab_dgx r (s + i) ≤ 0 ∨ ab_dgx (s + i) c ≤ 0 ∨ ab_dgx r (s + i) + ab_dgx (s + i) c - 1 ≤ d
  | 0, _, i, i0, i1 => absurd i0 (by omega)
  | k + 1, h, i, i0, i1 => by
    unfold ab_dgm at h
    rw [Bool.and_eq_true] at h
    by_cases e : i = k
    · subst e
      simp only [Bool.or_eq_true, decide_eq_true_eq] at h
      exact h.2
    · exact ab_dgm_at k h.1 i i0 (by omega)
/-- an entry that is not 0 is where the table says so -/
theorem ab_sup_att {L : Int → Int} : ∀ (k : Nat) (b c : Int), ab_bb b → ab_bb c → ab_dgx b c ≤ 0 → ab_LV b < k → ab_att L k (b * 19 + c) = 0
  | 0, b, c, hb, hc, h0, h1 => absurd (ab_lv_r hb).1 (by omega)
  | k + 1, b, c, hb, hc, h0, h1 => by
    have ok := ab_dg_ok hb hc
    have lb := ab_lv_r hb
    have lc := ab_lv_r hc
    rw [ab_att, ab_as_at hc]
    unfold ab_dgok at ok
    unfold ab_asx
    by_cases c1 : b = 0
    · rw [if_pos c1] at ok ⊢
      have ok := of_decide_eq_true ok
      by_cases c2 : c = ab_START (ab_LV c)
      · rw [if_pos c2] at ok
        by_cases c3 : ab_LV c = 0
        · rw [if_pos c3] at ok; omega
        · rw [if_neg c3] at ok; omega
      · rw [if_neg c2]
    · rw [if_neg c1] at ok ⊢
      by_cases c2 : ab_FIRST b ≤ -(ab_LV b - ab_LV c)
      · rw [if_pos c2] at ok ⊢
        have ok := of_decide_eq_true ok
        by_cases c3 : c = ab_jn (-(ab_LV b - ab_LV c)) b (ab_START (ab_LV c)) (ab_wd (ab_LV c)).toNat
        · rw [if_pos c3] at ok; omega
        · rw [if_neg c3]
      · rw [if_neg c2] at ok ⊢
        obtain ⟨k1, k2, k3, k4, k5, k6⟩ := ab_lv_k hb c1
        simp only [Bool.and_eq_true, decide_eq_true_eq] at ok
        obtain ⟨⟨o1, o2⟩, o3⟩ := ok
        have es : ab_asy L (ab_att L k) b c = 0 := by
          have e1 := ab_sup_att (L := L) k (ab_REST b) c k5 hc (by omega) (by omega)
          have e2 : ab_exd (ab_att L k) (ab_REST b) (ab_LV c - ab_FIRST b) c = 0 := by
            unfold ab_exd
            by_cases z : 0 ≤ ab_LV c - ab_FIRST b
            · rw [if_pos z] at o1 ⊢
              have hw := ab_wd_eq z (by omega)
              have key : ∀ m : Nat, (m : Int) ≤ ab_wd (ab_LV c - ab_FIRST b) → ab_exs (ab_att L k) (ab_REST b) c (ab_START (ab_LV c - ab_FIRST b)) m = 0 := by
                intro m
                induction m with
                | zero => intro _; rfl
                | succ m ih =>
                  intro hm
                  have hl := ab_lv_at z (by omega) (i := m) (by omega) (by omega)
                  have bm : ab_bb (ab_START (ab_LV c - ab_FIRST b) + m) := ⟨by omega, by omega⟩
                  have at0 := ab_dgm_at _ o1 m (by omega) (by omega)
                  have r1 := ab_dg_r k5 bm
                  have r2 := ab_dg_r bm hc
                  have hz : ab_att L k (ab_REST b * 19 + (ab_START (ab_LV c - ab_FIRST b) + m)) * ab_att L k ((ab_START (ab_LV c - ab_FIRST b) + m) * 19 + c) = 0 := by
                    rcases at0 with z1 | z1 | z1
                    · rw [ab_sup_att k _ _ k5 bm z1 (by omega), Int.zero_mul]
                    · rw [ab_sup_att k _ _ bm hc z1 (by omega), Int.mul_zero]
                    · by_cases z2 : ab_dgx (ab_REST b) (ab_START (ab_LV c - ab_FIRST b) + m) ≤ 0
                      · rw [ab_sup_att k _ _ k5 bm z2 (by omega), Int.zero_mul]
                      · rw [ab_sup_att k _ _ bm hc (by omega) (by omega), Int.mul_zero]
                  unfold ab_exs
                  rw [ih (by omega), hz]
                  rfl
              exact key _ (by omega)
            · rw [if_neg z]
          unfold ab_asy
          rw [e1, e2, Int.mul_zero]
          rfl
        by_cases c3 : ab_LV b - ab_LV c = ab_FIRST b ∧ c = ab_REST b
        · rw [if_pos c3] at o3
          have := of_decide_eq_true o3
          omega
        · rw [if_neg c3]
          exact es
theorem ab_sup {L : Int → Int} {b c : Int} (hb : ab_bb b) (hc : ab_bb c) (h : ab_AT L (b * 19 + c) ≠ 0) : 1 ≤ ab_dgx b c := by
  by_cases z : ab_dgx b c ≤ 0
  · exact absurd (ab_sup_att (L := L) 6 b c hb hc z (by have := ab_lv_r hb; omega)) h
  · omega
/-- what a mode makes of the rest of a partition is shorter than it, where it isn't put in order at once -/
theorem ab_shorter {b t c : Int} (hb : ab_bb b) (h1 : b ≠ 0) (ht : 0 ≤ t ∧ t ≤ 5) (hm : ¬ ab_FIRST b ≤ -(ab_LV b - t)) (hw : 0 ≤ t - ab_FIRST b) (hc : ab_bb c) (hl : ab_LV c = t - ab_FIRST b) (hs : 1 ≤ ab_dgx (ab_REST b) c) (c1 : c ≠ 0) (c2 : ¬ ab_FIRST c ≤ ab_FIRST b) : ab_LENGTH c < ab_LENGTH b := by
  have := ab_tb_all (P := fun b => ∀ k : Fin 19, b ≠ 0 → ¬ ab_FIRST b ≤ -(ab_LV b - (ab_LV k.val + ab_FIRST b)) → 1 ≤ ab_dgx (ab_REST b) k.val → (k.val : Int) ≠ 0 → ¬ ab_FIRST k.val ≤ ab_FIRST b → ab_LENGTH k.val < ab_LENGTH b) (m := 19) (by decide +kernel) hb.1 hb.2 ⟨c.toNat, by have := hc.1; have := hc.2; omega⟩
  simp only [Int.toNat_of_nonneg hc.1] at this
  exact this h1 (by rw [hl]; omega) hs c1 c2
/-- the places of partitions, found by their numbers -/
def ab_pls (b fr d c : Int) : Nat → Bool
  | 0 => true
  | k + 1 => ab_pls b fr d c k && decide (ab_NUM (5 * c + (fr + k) - fr + d) = ab_NUM (5 * b + (fr + k)))
def ab_ple (first b fr c : Int) : Bool := decide (ab_LENGTH c = ab_LENGTH b - fr + (if 0 < first then 1 else 0)) && (decide (first = 0) || decide (ab_NUM (5 * c) = first)) && ab_pls b fr (if 0 < first then 1 else 0) c (ab_LENGTH b - fr).toNat
def ab_pl (first b fr : Int) : Nat → Int
  | 0 => 0
  | c + 1 => if ab_ple first b fr c = true then c else ab_pl first b fr c
theorem ab_pl_r {first b fr : Int} : ∀ k : Nat, 0 ≤ ab_pl first b fr k ∧ ab_pl first b fr k ≤ k
  | 0 => by unfold ab_pl; omega
  | k + 1 => by
    have := ab_pl_r (first := first) (b := b) (fr := fr) k
    unfold ab_pl
    split <;> omega
theorem ab_pl_rest {b : Int} (hb : ab_bb b) (h1 : b ≠ 0) : ab_pl 0 b 1 19 = ab_REST b :=
  ab_tb_all (P := fun b => b ≠ 0 → ab_pl 0 b 1 19 = ab_REST b) (m := 19) (by decide +kernel) hb.1 hb.2 h1
theorem ab_pl_join {k b : Int} (hb : ab_bb b) (h1 : 1 ≤ k) (h2 : k + ab_LV b ≤ 5) (h3 : ab_FIRST b ≤ k) : ab_pl k b 0 19 = ab_jn k b (ab_START (k + ab_LV b)) (ab_wd (k + ab_LV b)).toNat := by
  have lb := ab_lv_r hb
  have := ab_tb_all (P := fun b => ∀ k : Fin 6, (1 : Int) ≤ k.val → (k.val : Int) + ab_LV b ≤ 5 → ab_FIRST b ≤ k.val → ab_pl k.val b 0 19 = ab_jn k.val b (ab_START (k.val + ab_LV b)) (ab_wd (k.val + ab_LV b)).toNat) (m := 19) (by decide +kernel) hb.1 hb.2 ⟨k.toNat, by omega⟩
  simp only [Int.toNat_of_nonneg (show 0 ≤ k by omega)] at this
  exact this h1 h2 h3
theorem ab_num_0 {b : Int} (hb : ab_bb b) : ab_NUM (5 * b) = ab_FIRST b := ab_tb_all (P := fun b => ab_NUM (5 * b) = ab_FIRST b) (m := 19) (by decide +kernel) hb.1 hb.2
theorem ab_num_k {b k : Int} (hb : ab_bb b) (h0 : 0 ≤ k) (h1 : k < ab_LENGTH b) : ab_NUM (5 * b + k) = ab_FIRST (ab_rests b k.toNat) := by
  have hl := ab_first_r hb.1 hb.2
  have := ab_tb_all (P := fun b => ∀ k : Fin 5, (k.val : Int) < ab_LENGTH b → ab_NUM (5 * b + k.val) = ab_FIRST (ab_rests b k.val)) (m := 19) (by decide +kernel) hb.1 hb.2 ⟨k.toNat, by omega⟩
  simp only [Int.toNat_of_nonneg h0] at this
  exact this h1
theorem ab_num_r {j : Int} (h0 : 0 ≤ j) (h1 : j < 95) : 0 ≤ ab_NUM j ∧ ab_NUM j ≤ 5 := ab_tb_all (P := fun j => 0 ≤ ab_NUM j ∧ ab_NUM j ≤ 5) (m := 95) (by decide +kernel) h0 h1
theorem ab_len_0 {b : Int} (hb : ab_bb b) : ab_LENGTH b = 0 ↔ b = 0 := ab_tb_all (P := fun b => ab_LENGTH b = 0 ↔ b = 0) (m := 19) (by decide +kernel) hb.1 hb.2
theorem ab_len_rest {b : Int} (hb : ab_bb b) (h1 : b ≠ 0) : ab_LENGTH (ab_REST b) < ab_LENGTH b := ab_tb_all (P := fun b => b ≠ 0 → ab_LENGTH (ab_REST b) < ab_LENGTH b) (m := 19) (by decide +kernel) hb.1 hb.2 h1
/-- the model's table: rows of seven by mode and basis vector -/
def ab_mte (L : Int → Int) (m b k : Int) : Int := if (0 ≤ ab_LV b - m ∧ ab_LV b - m ≤ 5) ∧ k < ab_wd (ab_LV b - m) then ab_AT L (b * 19 + (ab_START (ab_LV b - m) + k)) else 0
def ab_row (m b : Int) : Int := 7 * (19 * (m + 5) + b)
def ab_pw (v : Int) : Nat → Int
  | 0 => 1
  | k + 1 => ab_pw v k * v % 101
theorem ab_pw_inv {v : Int} (h0 : 0 ≤ v) (h1 : v ≤ 100) : ab_pw v 99 = ab_inv v := ab_tb_all (P := fun v => ab_pw v 99 = ab_inv v) (m := 101) (by decide +kernel) h0 (by omega)
theorem ab_pw_r {v : Int} : ∀ k : Nat, 0 ≤ ab_pw v k ∧ ab_pw v k ≤ 100
  | 0 => by unfold ab_pw; omega
  | k + 1 => by unfold ab_pw; omega
