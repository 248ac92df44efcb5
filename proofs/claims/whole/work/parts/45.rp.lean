/-! ===== what a tape tells ===== -/
/-- the place of the first fault, -1 if there is none -/
def ab_ft (t : Int → Int) : Nat → Nat → Int
  | i, 0 => if ab_sts t i = 7 then -1 else i
  | i, k + 1 => if ab_sts t (i + 1) < 0 then i else ab_ft t (i + 1) k
theorem ab_ft_no {t : Int → Int} : ∀ (k i : Nat), (∀ j : Nat, i ≤ j → j < i + k → 0 ≤ ab_sts t (j + 1)) → ab_ft t i k = if ab_sts t (i + k) = 7 then -1 else ((i + k : Nat) : Int)
  | 0, i, _ => rfl
  | k + 1, i, h => by
    have ih := ab_ft_no k (i + 1) (fun j h0 h1 => h j (by omega) (by omega))
    have h0 := h i (by omega) (by omega)
    unfold ab_ft
    rw [if_neg (by omega), ih, show i + 1 + k = i + (k + 1) by omega]
theorem ab_ft_at {t : Int → Int} : ∀ (k i f : Nat), i ≤ f → f < i + k → (∀ j : Nat, i ≤ j → j < f → 0 ≤ ab_sts t (j + 1)) → ab_sts t (f + 1) < 0 → ab_ft t i k = f
  | 0, i, f, h0, h1, _, _ => absurd h1 (by omega)
  | k + 1, i, f, h0, h1, h, hf => by
    unfold ab_ft
    by_cases e : f = i
    · rw [e] at hf ⊢
      rw [if_pos hf]
    · have := h i (by omega) (by omega)
      rw [if_neg (by omega)]
      exact ab_ft_at k (i + 1) f (by omega) (by omega) (fun j h0 h1 => h j (by omega) h1) hf
theorem ab_ft_m1 {t : Int → Int} : ∀ (k i : Nat), ab_ft t i k < 0 → (∀ j : Nat, i ≤ j → j < i + k → 0 ≤ ab_sts t (j + 1)) ∧ ab_sts t (i + k) = 7
  | 0, i, h => by
    unfold ab_ft at h
    split at h
    · exact ⟨fun j h0 h1 => absurd h0 (by omega), by assumption⟩
    · omega
  | k + 1, i, h => by
    unfold ab_ft at h
    split at h
    · omega
    · rename_i c
      have ih := ab_ft_m1 k (i + 1) h
      refine ⟨fun j h0 h1 => ?_, by rw [show i + (k + 1) = i + 1 + k by omega]; exact ih.2⟩
      by_cases e : j = i
      · rw [e]; omega
      · exact ih.1 j (by omega) (by omega)
abbrev ab_NT : Type := Int × Int × Int × (Int → Int) × Int
/-- what a scan has, by the state of the reader; d bytes of the term are behind -/
def ab_ri (st : Int) (z : ab_NT) (d : Int) : Prop := (∀ j, 0 ≤ j → j < z.2.2.2.2 → -5 ≤ z.2.2.2.1 j ∧ z.2.2.2.1 j ≤ 5) ∧ 0 ≤ z.2.2.2.2 ∧ 0 ≤ z.2.2.1 ∧ z.2.2.1 ≤ 99 ∧
  ((st = 0 ∧ z.1 = 0 ∧ z.2.1 = 1 ∧ z.2.2.1 = 0 ∧ z.2.2.2.2 = 0) ∨ (st = 7 ∧ d = 0 ∧ z.1 = 0 ∧ z.2.1 = 1 ∧ z.2.2.1 = 0 ∧ z.2.2.2.2 = 0) ∨ (st = 1 ∧ z.1 = 0 ∧ z.2.1 = 1 ∧ z.2.2.1 ≤ 9 ∧ z.2.2.2.2 = 0) ∨ (st = 2 ∧ z.1 = 0 ∧ z.2.1 = 1 ∧ z.2.2.2.2 = 0) ∨ ((st = 3 ∨ st = 6) ∧ z.1 = 1 ∧ z.2.1 = 1 ∧ 2 * z.2.2.2.2 + 1 ≤ d) ∨ (st = 5 ∧ z.1 = 1 ∧ z.2.1 = 1 ∧ 2 * z.2.2.2.2 ≤ d) ∨ (st = 4 ∧ z.1 = 1 ∧ z.2.1 = -1 ∧ 2 * z.2.2.2.2 + 1 ≤ d))
theorem ab_ri_s {st b d : Int} {z : ab_NT} (h : ab_ri st z d) (hd : 0 ≤ d ∧ d < 60) (hb : b ≠ 93) (hn : 0 ≤ ab_nx st b) : ab_ri (ab_nx st b) (ab_ntx b z) (d + 1) := by
  obtain ⟨i, sg, nu, g, mc⟩ := z
  obtain ⟨h1, h2, h3, h4, h5⟩ := h
  simp only at h1 h2 h3 h4 h5
  have add : ∀ x : Int, -5 ≤ x → x ≤ 5 → ∀ j, 0 ≤ j → j < mc + 1 → -5 ≤ ab_ui g mc x j ∧ ab_ui g mc x j ≤ 5 := by
    intro x x0 x1 j j0 j1
    by_cases e : j = mc
    · rw [e, ab_ui_at]; exact ⟨x0, x1⟩
    · rw [ab_ui_ne e]; exact h1 j j0 (by omega)
  rcases h5 with ⟨rfl, rfl, rfl, rfl, rfl⟩ | ⟨rfl, rfl, rfl, rfl, rfl, rfl⟩ | ⟨rfl, rfl, rfl, e4, rfl⟩ | ⟨rfl, rfl, rfl, rfl⟩ | ⟨e0, rfl, rfl, e3⟩ | ⟨rfl, rfl, rfl, e3⟩ | ⟨rfl, rfl, rfl, e3⟩
  · have en : ab_nx 0 b = if b = 91 then 3 else if 49 ≤ b ∧ b ≤ 57 then 1 else -1 := rfl
    rw [en] at hn ⊢
    by_cases c1 : b = 91
    · subst c1
      exact ⟨h1, h2, h3, h4, Or.inr (Or.inr (Or.inr (Or.inr (Or.inl ⟨Or.inl rfl, rfl, rfl, by show 2 * (0 : Int) + 1 ≤ d + 1; omega⟩))))⟩
    · rw [if_neg c1] at hn ⊢
      by_cases c2 : 49 ≤ b ∧ b ≤ 57
      · rw [if_pos c2]
        have e : ab_ntx b (0, 1, 0, g, 0) = (0, 1, 0 * 10 + b - 48, g, 0) := by
          unfold ab_ntx
          rw [if_neg c1, if_neg (by omega), if_pos (by omega)]
          rfl
        rw [e]
        exact ⟨h1, h2, by show 0 ≤ 0 * 10 + b - 48; omega, by show 0 * 10 + b - 48 ≤ 99; omega, Or.inr (Or.inr (Or.inl ⟨rfl, rfl, rfl, by show 0 * 10 + b - 48 ≤ 9; omega, rfl⟩))⟩
      · rw [if_neg c2] at hn; omega
  · have en : ab_nx 7 b = if b = 43 then 0 else -1 := rfl
    rw [en] at hn ⊢
    by_cases c1 : b = 43
    · subst c1
      exact ⟨h1, h2, h3, h4, Or.inl ⟨rfl, rfl, rfl, rfl, rfl⟩⟩
    · rw [if_neg c1] at hn; omega
  · have en : ab_nx 1 b = if b = 91 then 3 else if 48 ≤ b ∧ b ≤ 57 then 2 else -1 := rfl
    rw [en] at hn ⊢
    by_cases c1 : b = 91
    · subst c1
      exact ⟨h1, h2, h3, h4, Or.inr (Or.inr (Or.inr (Or.inr (Or.inl ⟨Or.inl rfl, rfl, rfl, by show 2 * (0 : Int) + 1 ≤ d + 1; omega⟩))))⟩
    · rw [if_neg c1] at hn ⊢
      by_cases c2 : 48 ≤ b ∧ b ≤ 57
      · rw [if_pos c2]
        have e : ab_ntx b (0, 1, nu, g, 0) = (0, 1, nu * 10 + b - 48, g, 0) := by
          unfold ab_ntx
          rw [if_neg c1, if_neg (by omega), if_pos (by omega)]
          rfl
        rw [e]
        exact ⟨h1, h2, by show 0 ≤ nu * 10 + b - 48; omega, by show nu * 10 + b - 48 ≤ 99; omega, Or.inr (Or.inr (Or.inr (Or.inl ⟨rfl, rfl, rfl, rfl⟩)))⟩
      · rw [if_neg c2] at hn; omega
  · have en : ab_nx 2 b = if b = 91 then 3 else -1 := rfl
    rw [en] at hn ⊢
    by_cases c1 : b = 91
    · subst c1
      exact ⟨h1, h2, h3, h4, Or.inr (Or.inr (Or.inr (Or.inr (Or.inl ⟨Or.inl rfl, rfl, rfl, by show 2 * (0 : Int) + 1 ≤ d + 1; omega⟩))))⟩
    · rw [if_neg c1] at hn; omega
  · have en : ab_nx st b = ab_mb b := by
      rcases e0 with rfl | rfl
      · show (if b = 93 then 7 else ab_mb b) = _
        rw [if_neg hb]
      · rfl
    rw [en] at hn ⊢
    unfold ab_mb at hn ⊢
    by_cases c1 : b = 45
    · subst c1
      exact ⟨h1, h2, h3, h4, Or.inr (Or.inr (Or.inr (Or.inr (Or.inr (Or.inr ⟨rfl, rfl, rfl, by show 2 * mc + 1 ≤ d + 1; omega⟩)))))⟩
    · rw [if_neg c1] at hn ⊢
      by_cases c2 : 48 ≤ b ∧ b ≤ 53
      · rw [if_pos c2]
        have e : ab_ntx b (1, 1, nu, g, mc) = (1, 1, nu, ab_ui g mc (1 * (b - 48)), mc + 1) := by
          unfold ab_ntx
          rw [if_neg (by omega), if_neg c1, if_pos (by omega)]
          show (if (1 : Int) = 0 then _ else if mc < 30 then _ else _) = _
          rw [if_neg (by decide), if_pos (by omega)]
        rw [e]
        exact ⟨add _ (by omega) (by omega), by show 0 ≤ mc + 1; omega, h3, h4, Or.inr (Or.inr (Or.inr (Or.inr (Or.inr (Or.inl ⟨rfl, rfl, rfl, by show 2 * (mc + 1) ≤ d + 1; omega⟩)))))⟩
      · rw [if_neg c2] at hn; omega
  · have en : ab_nx 5 b = if b = 32 then 6 else if b = 93 then 7 else -1 := rfl
    rw [en, if_neg hb] at hn
    rw [en, if_neg hb]
    by_cases c1 : b = 32
    · subst c1
      exact ⟨h1, h2, h3, h4, Or.inr (Or.inr (Or.inr (Or.inr (Or.inl ⟨Or.inr rfl, rfl, rfl, by show 2 * mc + 1 ≤ d + 1; omega⟩))))⟩
    · rw [if_neg c1] at hn; omega
  · have en : ab_nx 4 b = if 49 ≤ b ∧ b ≤ 53 then 5 else -1 := rfl
    rw [en] at hn ⊢
    by_cases c2 : 49 ≤ b ∧ b ≤ 53
    · rw [if_pos c2]
      have e : ab_ntx b (1, -1, nu, g, mc) = (1, 1, nu, ab_ui g mc (-1 * (b - 48)), mc + 1) := by
        unfold ab_ntx
        rw [if_neg (by omega), if_neg (by omega), if_pos (by omega)]
        show (if (1 : Int) = 0 then _ else if mc < 30 then _ else _) = _
        rw [if_neg (by decide), if_pos (by omega)]
      rw [e]
      exact ⟨add _ (by omega) (by omega), by show 0 ≤ mc + 1; omega, h3, h4, Or.inr (Or.inr (Or.inr (Or.inr (Or.inr (Or.inl ⟨rfl, rfl, rfl, by show 2 * (mc + 1) ≤ d + 1; omega⟩)))))⟩
    · rw [if_neg c2] at hn; omega
/-- a text without a fault, and a place where a term may begin -/
def ab_tok (t : Int → Int) (s : Int) : Prop := 0 ≤ s ∧ s ≤ 60 ∧ (∀ j : Nat, (j : Int) < s → 0 ≤ ab_sts t (j + 1)) ∧ ab_sts t s.toNat = 7
def ab_tbeg (t : Int → Int) (s p : Int) : Prop := 0 ≤ p ∧ p ≤ s ∧ (ab_sts t p.toNat = 7 ∨ (p = 0))
theorem ab_ri_at {t : Int → Int} {s p : Int} {g : Int → Int} (hk : ab_tok t s) (hp : ab_tbeg t s p) : ∀ k : Nat, p + k ≤ s → (∀ i, p ≤ i → i < p + k → t i ≠ 93) → ab_ri (ab_sts t (p + k).toNat) (ab_nts t p g k) k
  | 0, h0, _ => by
    obtain ⟨p0, p1, p2⟩ := hp
    have e : (p + ((0 : Nat) : Int)).toNat = p.toNat := by omega
    rw [e]
    refine ⟨fun j j0 j1 => absurd j0 (by have j1 : j < 0 := j1; omega), Int.le_refl 0, Int.le_refl 0, by show (0 : Int) ≤ 99; decide, ?_⟩
    rcases p2 with h | h
    · exact Or.inr (Or.inl ⟨h, rfl, rfl, rfl, rfl, rfl⟩)
    · subst h
      exact Or.inl ⟨rfl, rfl, rfl, rfl, rfl⟩
  | k + 1, h0, h1 => by
    have ih := ab_ri_at (g := g) hk hp k (by omega) (fun i i0 i1 => h1 i i0 (by omega))
    obtain ⟨p0, p1, p2⟩ := hp
    obtain ⟨s0, s1, s2, s3⟩ := hk
    have e : (p + ((k + 1 : Nat) : Int)).toNat = (p + (k : Int)).toNat + 1 := by omega
    have ec : (((p + (k : Int)).toNat : Nat) : Int) = p + k := by omega
    have hst := s2 (p + (k : Int)).toNat (by omega)
    rw [ab_sts, ec] at hst
    rw [e, ab_sts, ec, ab_nts]
    have := ab_ri_s ih ⟨by omega, by omega⟩ (h1 _ (by omega) (by omega)) hst
    rw [show ((k + 1 : Nat) : Int) = (k : Int) + 1 by omega]
    exact this
/-- where a term ends -/
def ab_enx (t : Int → Int) (p : Int) : Nat → Int
  | 0 => p
  | k + 1 => if t p = 93 then p else ab_enx t (p + 1) k
def ab_en (t : Int → Int) (s p : Int) : Int := ab_enx t p (s - p).toNat
theorem ab_enx_ok {t : Int → Int} : ∀ (k : Nat) (p : Int), p ≤ ab_enx t p k ∧ ab_enx t p k ≤ p + k ∧ (∀ i, p ≤ i → i < ab_enx t p k → t i ≠ 93) ∧ (ab_enx t p k < p + k → t (ab_enx t p k) = 93)
  | 0, p => by
    unfold ab_enx
    exact ⟨Int.le_refl _, by omega, fun i h0 h1 => absurd h0 (by omega), fun h => absurd h (by omega)⟩
  | k + 1, p => by
    have ih := ab_enx_ok (t := t) k (p + 1)
    unfold ab_enx
    by_cases c : t p = 93
    · rw [if_pos c]
      exact ⟨Int.le_refl _, by omega, fun i h0 h1 => absurd h0 (by omega), fun _ => c⟩
    · rw [if_neg c]
      refine ⟨by omega, by omega, fun i h0 h1 => ?_, fun h => ih.2.2.2 (by omega)⟩
      by_cases e : i = p
      · rw [e]; exact c
      · exact ih.2.2.1 i (by omega) h1
theorem ab_en_ok {t : Int → Int} {s p : Int} (hp : p ≤ s) : p ≤ ab_en t s p ∧ ab_en t s p ≤ s ∧ (∀ i, p ≤ i → i < ab_en t s p → t i ≠ 93) ∧ (ab_en t s p < s → t (ab_en t s p) = 93) := by
  have h := ab_enx_ok (t := t) (s - p).toNat p
  unfold ab_en
  exact ⟨h.1, by omega, h.2.2.1, fun z => h.2.2.2 (by omega)⟩
/-- a term that begins ends with a bracket, and then the text may begin another -/
theorem ab_term_ok {t : Int → Int} {s p : Int} (hk : ab_tok t s) (hp : ab_tbeg t s p) : (p = s ∧ ab_en t s p = s) ∨ (p < s ∧ ab_en t s p < s ∧ t (ab_en t s p) = 93 ∧ (∀ g, (ab_nts t p g (ab_en t s p - p).toNat).1 = 1) ∧ ab_tbeg t s (ab_en t s p + 1)) := by
  have he := ab_en_ok (t := t) hp.2.1
  by_cases c : p = s
  · exact Or.inl ⟨c, by omega⟩
  · have hlt : p < s := by have := hp.2.1; omega
    have hri : ∀ g, ab_ri (ab_sts t (ab_en t s p).toNat) (ab_nts t p g (ab_en t s p - p).toNat) (ab_en t s p - p) := by
      intro g
      have := ab_ri_at (g := g) hk hp (ab_en t s p - p).toNat (by omega) (fun i i0 i1 => he.2.2.1 i i0 (by omega))
      rw [show p + (((ab_en t s p - p).toNat : Nat) : Int) = ab_en t s p by omega, show (((ab_en t s p - p).toNat : Nat) : Int) = ab_en t s p - p by omega] at this
      exact this
    have hes : ab_en t s p < s := by
      by_cases z : ab_en t s p = s
      · have r := (hri (fun _ => 0)).2.2.2.2
        rw [z, hk.2.2.2] at r
        omega
      · omega
    have h93 := he.2.2.2 hes
    have p0 := hp.1
    have ec : (((ab_en t s p).toNat : Nat) : Int) = ab_en t s p := Int.toNat_of_nonneg (by omega)
    have hst := hk.2.2.1 (ab_en t s p).toNat (by omega)
    rw [ab_sts, ec, h93] at hst
    have h7 : ab_nx (ab_sts t (ab_en t s p).toNat) 93 = 7 ∧ (ab_sts t (ab_en t s p).toNat = 3 ∨ ab_sts t (ab_en t s p).toNat = 5) := by
      revert hst
      have := ab_sts_r (f := t) (ab_en t s p).toNat
      generalize ab_sts t (ab_en t s p).toNat = st at this
      intro hst
      have hh : st = -1 ∨ st = 0 ∨ st = 1 ∨ st = 2 ∨ st = 3 ∨ st = 4 ∨ st = 5 ∨ st = 6 ∨ st = 7 := by omega
      rcases hh with rfl | rfl | rfl | rfl | rfl | rfl | rfl | rfl | rfl
      · exact absurd hst (by decide)
      · exact absurd hst (by decide)
      · exact absurd hst (by decide)
      · exact absurd hst (by decide)
      · decide
      · exact absurd hst (by decide)
      · decide
      · exact absurd hst (by decide)
      · exact absurd hst (by decide)
    refine Or.inr ⟨hlt, hes, h93, fun g => ?_, by omega, by omega, Or.inl ?_⟩
    · have r := (hri g).2.2.2.2
      omega
    · rw [show (ab_en t s p + 1).toNat = (ab_en t s p).toNat + 1 by omega, ab_sts, ec, h93]
      exact h7.1
theorem ab_nts_cg {f g g' : Int → Int} {p : Int} : ∀ k, (ab_nts f p g k).1 = (ab_nts f p g' k).1 ∧ (ab_nts f p g k).2.1 = (ab_nts f p g' k).2.1 ∧ (ab_nts f p g k).2.2.1 = (ab_nts f p g' k).2.2.1 ∧ (ab_nts f p g k).2.2.2.2 = (ab_nts f p g' k).2.2.2.2 ∧ ∀ j, 0 ≤ j → j < (ab_nts f p g k).2.2.2.2 → (ab_nts f p g k).2.2.2.1 j = (ab_nts f p g' k).2.2.2.1 j
  | 0 => ⟨rfl, rfl, rfl, rfl, fun j j0 j1 => absurd j0 (by have j1 : j < 0 := j1; omega)⟩
  | k + 1 => by
    have ih := ab_nts_cg (f := f) (g := g) (g' := g') (p := p) k
    rw [ab_nts, ab_nts]
    revert ih
    generalize ab_nts f p g k = z
    generalize ab_nts f p g' k = w
    obtain ⟨z1, z2, z3, z4, z5⟩ := z
    obtain ⟨w1, w2, w3, w4, w5⟩ := w
    intro ih
    obtain ⟨e1, e2, e3, e4, e5⟩ := ih
    simp only at e1 e2 e3 e4 e5
    subst e1 e2 e3 e4
    unfold ab_ntx
    simp only
    split
    · exact ⟨rfl, rfl, rfl, rfl, e5⟩
    · split
      · exact ⟨rfl, rfl, rfl, rfl, e5⟩
      · split
        · split
          · exact ⟨rfl, rfl, rfl, rfl, e5⟩
          · split
            · refine ⟨rfl, rfl, rfl, rfl, fun j j0 j1 => ?_⟩
              have j1 : j < z5 + 1 := j1
              show ab_ui z4 z5 _ j = ab_ui w4 z5 _ j
              by_cases e : j = z5
              · rw [e, ab_ui_at, ab_ui_at]
              · rw [ab_ui_ne e, ab_ui_ne e]
                exact e5 j j0 (by show j < z5; omega)
            · exact ⟨rfl, rfl, rfl, rfl, e5⟩
        · exact ⟨rfl, rfl, rfl, rfl, e5⟩
/-- terms: number, how many modes, modes -/
abbrev ab_TM : Type := Int × Int × (Int → Int)
def ab_tmz (z : ab_NT) : ab_TM := (if z.2.2.1 = 0 then 1 else z.2.2.1, z.2.2.2.2, z.2.2.2.1)
def ab_tls (t : Int → Int) (s : Int) : Nat → Int → List ab_TM
  | 0, _ => []
  | k + 1, p => if p < s then ab_tmz (ab_nts t p (fun _ => 0) (ab_en t s p - p).toNat) :: ab_tls t s k (ab_en t s p + 1) else []
/-- the level of a term, -1 if it is none -/
def ab_lvt (g : Int → Int) (mc : Int) : Int := if (∀ j : Nat, j < mc.toNat + 1 → -5 ≤ ab_tog g mc j) then (if 0 < ab_tog g mc mc.toNat then -1 else -ab_tog g mc mc.toNat) else -1
/-- modes done one behind the other, the last first -/
def ab_adt (T g : Int → Int) : Nat → Int → (Int → Int) → Option (Int × (Int → Int))
  | 0, hg, f => some (hg, f)
  | k + 1, hg, f => if 0 ≤ hg - g k ∧ hg - g k ≤ 5 then ab_adt T g k (hg - g k) (ab_mv T f hg (hg - g k)) else none
def ab_sma (T : Int → Int) (x : ab_TM) (sm : Int → Int) : Int → Int := match ab_adt T x.2.2 x.2.1.toNat 0 (ab_un1 0) with
  | some z => fun i => (sm i + x.1 * z.2 i) % 101
  | none => sm
def ab_clt (T : Int → Int) : List ab_TM → Int → Int → (Int → Int) → Int × (Int → Int)
  | [], _, lv, sm => (lv, sm)
  | x :: r, c, lv, sm => if ab_lvt x.2.2 x.2.1 < 0 ∨ (0 < c ∧ ab_lvt x.2.2 x.2.1 ≠ lv) then (-3, sm) else ab_clt T r (c + 1) (ab_lvt x.2.2 x.2.1) (ab_sma T x (if c = 0 then fun _ => 0 else sm))
theorem ab_tog_cg {g g' : Int → Int} {mc : Int} : ∀ k : Nat, (k : Int) ≤ mc → (∀ j, 0 ≤ j → j < mc → g j = g' j) → ab_tog g mc k = ab_tog g' mc k
  | 0, _, _ => rfl
  | k + 1, hk, h => by
    have ih := ab_tog_cg k (by omega) h
    unfold ab_tog
    rw [ih, h _ (by omega) (by omega)]
theorem ab_adt_cg {T g g' : Int → Int} : ∀ (k : Nat) (hg : Int) (f : Int → Int), (∀ j : Int, 0 ≤ j → j < k → g j = g' j) → ab_adt T g k hg f = ab_adt T g' k hg f
  | 0, _, _, _ => rfl
  | k + 1, hg, f, h => by
    have e := h k (by omega) (by omega)
    unfold ab_adt
    rw [e]
    split
    · exact ab_adt_cg k _ _ (fun j j0 j1 => h j j0 (by omega))
    · rfl
