/-! ===== the table of acts, purely ===== -/
def ab_LV : Int → Int := ab_tb [0, 1, 2, 2, 3, 3, 3, 4, 4, 4, 4, 4, 5, 5, 5, 5, 5, 5, 5]
abbrev ab_bb (b : Int) : Prop := 0 ≤ b ∧ b < 19
abbrev ab_lok (L : Int → Int) : Prop := (0 ≤ L 0 ∧ L 0 ≤ 4) ∧ (0 ≤ L 1 ∧ L 1 ≤ 100) ∧ (0 ≤ L 2 ∧ L 2 ≤ 100) ∧ (0 ≤ L 3 ∧ L 3 ≤ 100)
abbrev ab_a01 (A : Int → Int) : Prop := ∀ j, 0 ≤ j → j < 361 → 0 ≤ A j ∧ A j ≤ 100
theorem ab_lv_r {b : Int} (h : ab_bb b) : 0 ≤ ab_LV b ∧ ab_LV b ≤ 5 ∧ ab_START (ab_LV b) ≤ b ∧ b < ab_START (ab_LV b) + ab_wd (ab_LV b) :=
  ab_tb_all (P := fun b => 0 ≤ ab_LV b ∧ ab_LV b ≤ 5 ∧ ab_START (ab_LV b) ≤ b ∧ b < ab_START (ab_LV b) + ab_wd (ab_LV b)) (m := 19) (by decide) h.1 h.2
theorem ab_lv_k {b : Int} (h : ab_bb b) (h1 : b ≠ 0) : ab_LV (ab_REST b) = ab_LV b - ab_FIRST b ∧ 1 ≤ ab_FIRST b ∧ ab_FIRST b ≤ ab_LV b ∧ 1 ≤ ab_LV b ∧ ab_bb (ab_REST b) ∧ ab_FIRST b ≤ 5 :=
  ab_tb_all (P := fun b => b ≠ 0 → ab_LV (ab_REST b) = ab_LV b - ab_FIRST b ∧ 1 ≤ ab_FIRST b ∧ ab_FIRST b ≤ ab_LV b ∧ 1 ≤ ab_LV b ∧ ab_bb (ab_REST b) ∧ ab_FIRST b ≤ 5) (m := 19) (by decide) h.1 h.2 h1
theorem ab_lv_at {t i : Int} (h0 : 0 ≤ t) (h1 : t ≤ 5) (i0 : 0 ≤ i) (i1 : i < ab_wd t) : ab_LV (ab_START t + i) = t := by
  have hw := ab_wd_eq h0 (by omega)
  have := ab_tb_all (P := fun t => ∀ i : Fin 7, (i.val : Int) < ab_wd t → ab_LV (ab_START t + i.val) = t) (m := 6) (by decide) h0 (by omega) ⟨i.toNat, by omega⟩
  simp only [Int.toNat_of_nonneg i0] at this
  exact this i1
theorem ab_lv_in {t j : Int} (h0 : 0 ≤ t) (h1 : t ≤ 5) (j0 : ab_START t ≤ j) (j1 : j < ab_START t + ab_wd t) : ab_LV j = t := by
  have := ab_lv_at h0 h1 (i := j - ab_START t) (by omega) (by omega)
  rw [show ab_START t + (j - ab_START t) = j by omega] at this
  exact this
theorem ab_lv_0 : ab_LV 0 = 0 := by decide
theorem ab_lv_st {b : Int} (h : ab_bb b) (h0 : ab_LV b = 0) : b = 0 :=
  ab_tb_all (P := fun b => ab_LV b = 0 → b = 0) (m := 19) (by decide) h.1 h.2 h0
def ab_asy (L A : Int → Int) (b c : Int) : Int := (ab_exd A (ab_REST b) (ab_LV c - ab_FIRST b) c + ab_slp (L 0) (ab_LV b - ab_LV c) (-ab_FIRST b) * A (ab_REST b * 19 + c)) % 101
/-- one entry of the table, out of those of lower levels -/
def ab_asx (L A : Int → Int) (b c : Int) : Int :=
  if b = 0 then (if c = ab_START (ab_LV c) then (if ab_LV c = 0 then L 2 else 1) else 0)
  else if ab_FIRST b ≤ -(ab_LV b - ab_LV c) then (if c = ab_jn (-(ab_LV b - ab_LV c)) b (ab_START (ab_LV c)) (ab_wd (ab_LV c)).toNat then 1 else 0)
  else if ab_LV b - ab_LV c = ab_FIRST b ∧ c = ab_REST b then (ab_asy L A b c + ab_ce (L 0) (ab_LV b - ab_LV c) (L 1) (L 3)) % 101
  else ab_asy L A b c
def ab_asq (L A : Int → Int) : Int → Int := fun j => ab_asx L A (j / 19) (j % 19)
def ab_att (L : Int → Int) : Nat → Int → Int
  | 0 => fun _ => 0
  | k + 1 => ab_asq L (ab_att L k)
def ab_AT (L : Int → Int) : Int → Int := ab_att L 6
theorem ab_asx_r {L A : Int → Int} {b c : Int} (hL : ab_lok L) : 0 ≤ ab_asx L A b c ∧ ab_asx L A b c ≤ 100 := by
  obtain ⟨-, -, h2, -⟩ := hL
  unfold ab_asx ab_asy
  (repeat' split) <;> omega
theorem ab_asy_r {L A : Int → Int} {b c : Int} : 0 ≤ ab_asy L A b c ∧ ab_asy L A b c ≤ 100 := by
  unfold ab_asy
  omega
theorem ab_AT_r {L : Int → Int} (hL : ab_lok L) (j : Int) : 0 ≤ ab_AT L j ∧ ab_AT L j ≤ 100 := ab_asx_r hL
theorem ab_exs_cg {A B : Int → Int} {rest to s : Int} : ∀ k : Nat, (∀ i : Int, 0 ≤ i → i < k → A (rest * 19 + (s + i)) = B (rest * 19 + (s + i)) ∧ A ((s + i) * 19 + to) = B ((s + i) * 19 + to)) → ab_exs A rest to s k = ab_exs B rest to s k
  | 0, _ => rfl
  | k + 1, h => by
    have ih := ab_exs_cg k (fun i h0 h1 => h i h0 (by omega))
    have e := h k (by omega) (by omega)
    unfold ab_exs
    rw [ih, e.1, e.2]
theorem ab_asy_cg {L A B : Int → Int} {b c : Int} (hb : ab_bb b) (hc : ab_bb c) (h1 : b ≠ 0) (hm : ¬ ab_FIRST b ≤ -(ab_LV b - ab_LV c)) (h : ∀ b' c', ab_bb b' → ab_bb c' → ab_LV b' < ab_LV b → ab_LV c' ≤ ab_LV c → A (b' * 19 + c') = B (b' * 19 + c')) : ab_asy L A b c = ab_asy L B b c := by
  have hr := ab_lv_r hb
  have hrc := ab_lv_r hc
  obtain ⟨k1, k2, k3, k4, k5, k6⟩ := ab_lv_k hb h1
  have e1 : A (ab_REST b * 19 + c) = B (ab_REST b * 19 + c) := h _ _ k5 hc (by omega) (by omega)
  have e2 : ab_exd A (ab_REST b) (ab_LV c - ab_FIRST b) c = ab_exd B (ab_REST b) (ab_LV c - ab_FIRST b) c := by
    unfold ab_exd
    by_cases z : 0 ≤ ab_LV c - ab_FIRST b
    · rw [if_pos z, if_pos z]
      have hw := ab_wd_eq z (by omega)
      refine ab_exs_cg _ fun i i0 i1 => ?_
      have hl := ab_lv_at z (by omega) i0 (by omega)
      exact ⟨h _ _ k5 ⟨by omega, by omega⟩ (by omega) (by omega), h _ _ ⟨by omega, by omega⟩ hc (by omega) (by omega)⟩
    · rw [if_neg z, if_neg z]
  unfold ab_asy
  rw [e1, e2]
theorem ab_asx_cg {L A B : Int → Int} {b c : Int} (hb : ab_bb b) (hc : ab_bb c) (h : ∀ b' c', ab_bb b' → ab_bb c' → ab_LV b' < ab_LV b → ab_LV c' ≤ ab_LV c → A (b' * 19 + c') = B (b' * 19 + c')) : ab_asx L A b c = ab_asx L B b c := by
  unfold ab_asx
  by_cases h1 : b = 0
  · rw [if_pos h1, if_pos h1]
  · rw [if_neg h1, if_neg h1]
    by_cases hm : ab_FIRST b ≤ -(ab_LV b - ab_LV c)
    · rw [if_pos hm, if_pos hm]
    · rw [if_neg hm, if_neg hm, ab_asy_cg hb hc h1 hm h]
theorem ab_as_at {L A : Int → Int} {b c : Int} (hc : ab_bb c) : ab_asq L A (b * 19 + c) = ab_asx L A b c := by
  obtain ⟨c0, c1⟩ := hc
  unfold ab_asq
  rw [show (b * 19 + c) / 19 = b by omega, show (b * 19 + c) % 19 = c by omega]
theorem ab_att_s {L : Int → Int} : ∀ (k : Nat) (b c : Int), ab_bb b → ab_bb c → ab_LV b < k → ab_att L k (b * 19 + c) = ab_att L (k + 1) (b * 19 + c)
  | 0, b, c, hb, hc, h => absurd (ab_lv_r hb).1 (by omega)
  | k + 1, b, c, hb, hc, h => by
    rw [ab_att, ab_att, ab_as_at hc, ab_as_at hc]
    exact ab_asx_cg hb hc fun b' c' hb' hc' h1 _ => ab_att_s k b' c' hb' hc' (by omega)
/-- the table answers its own equation -/
theorem ab_AT_eq {L : Int → Int} {b c : Int} (hb : ab_bb b) (hc : ab_bb c) : ab_AT L (b * 19 + c) = ab_asx L (ab_AT L) b c := by
  have := ab_att_s (L := L) 6 b c hb hc (by have := ab_lv_r hb; omega)
  unfold ab_AT
  rw [this, ab_att, ab_as_at hc]
theorem ab_stat_hs {h : ab_H} {a : Nat} {c : ab_C} (h6 : 6 ≤ a) (hs : ab_stat h) : ab_stat (ab_hs h a c) := by
  obtain ⟨h1, h2, h3, h4, h5⟩ := hs
  exact ⟨(ab_hs_ne (by omega)).trans h1, (ab_hs_ne (by omega)).trans h2, (ab_hs_ne (by omega)).trans h3, (ab_hs_ne (by omega)).trans h4, (ab_hs_ne (by omega)).trans h5⟩
theorem ab_fi_ext {α : Type} {f g A : Int → α} {lo hi : Int} (h1 : ∀ j, lo ≤ j → j < hi → f j = g j) (h2 : ∀ j, ¬ (lo ≤ j ∧ j < hi) → f j = A j) : f = ab_fi g A lo hi := by
  funext j
  unfold ab_fi
  by_cases c : lo ≤ j ∧ j < hi
  · rw [if_pos c]; exact h1 j c.1 c.2
  · rw [if_neg c]; exact h2 j c
theorem ab_ui_at {α : Type} {f : Int → α} {i : Int} {x : α} : ab_ui f i x i = x := if_pos rfl
theorem ab_ui_ne {α : Type} {f : Int → α} {i j : Int} {x : α} (h : j ≠ i) : ab_ui f i x j = f j := if_neg h
theorem ab_fi_no {α : Type} {g f : Int → α} {a i j : Int} (h : ¬ (a ≤ j ∧ j < i)) : ab_fi g f a i j = f j := if_neg h
theorem ab_fi_a01 {g f : Int → Int} {a i : Int} (hg : ∀ j, 0 ≤ g j ∧ g j ≤ 100) (hf : ab_a01 f) : ab_a01 (ab_fi g f a i) := by
  intro j h0 h1
  unfold ab_fi
  split
  · exact hg j
  · exact hf j h0 h1
