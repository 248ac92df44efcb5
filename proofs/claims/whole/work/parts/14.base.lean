/-! ===== small rules for runs ===== -/
theorem ab_nl_n {L : ab_L} : ab_nl (none :: L) = ab_nl L := rfl
theorem ab_nl_i {x : Int} {L : ab_L} : ab_nl (some (vi x) :: L) = ab_nl L := rfl
theorem ab_nl_r {x : Option Nat} {L : ab_L} : ab_nl (some (vo x) :: L) = ab_nl L := rfl
theorem ab_nl_0 : ab_nl [] = true := rfl
theorem ab_cat_i {x : Int} : ab_cat (vi x) = 1 := rfl
theorem ab_cat_r {x : Option Nat} : ab_cat (vo x) = 1 := rfl
theorem ab_cat_l {x : Int64} : ab_cat (vl x) = 2 := rfl
abbrev ab_vec (b : Nat) (hg : Int) : ab_C := .inl (10, [vi hg, vr b])
abbrev ab_ia (m : Nat) (f : Int → Int) : ab_C := .inr (.inl (0, m, f))
theorem ab_sum1 : ((1 : Nat) ≤ 8) = True := eq_true (by decide)
theorem ab_ri_0 : ab_inR 0 = True := eq_true (by decide)
theorem ab_ri_1 : ab_inR 1 = True := eq_true (by decide)
theorem ab_ri_2 : ab_inR 2 = True := eq_true (by decide)
theorem ab_ri_3 : ab_inR 3 = True := eq_true (by decide)
theorem ab_ri_4 : ab_inR 4 = True := eq_true (by decide)
theorem ab_ri_5 : ab_inR 5 = True := eq_true (by decide)
theorem ab_ri_6 : ab_inR 6 = True := eq_true (by decide)
theorem ab_ri_7 : ab_inR 7 = True := eq_true (by decide)
theorem ab_ri_8 : ab_inR 8 = True := eq_true (by decide)
theorem ab_ri_12 : ab_inR 12 = True := eq_true (by decide)
theorem ab_ri_30 : ab_inR 30 = True := eq_true (by decide)
theorem ab_ri_60 : ab_inR 60 = True := eq_true (by decide)
theorem ab_ri_100 : ab_inR 100 = True := eq_true (by decide)
theorem ab_ri_101 : ab_inR 101 = True := eq_true (by decide)
theorem ab_ri_127 : ab_inR 127 = True := eq_true (by decide)
theorem ab_ri_m1 : ab_inR (-1) = True := eq_true (by decide)
theorem ab_ri_m2 : ab_inR (-2) = True := eq_true (by decide)
theorem ab_ri_m3 : ab_inR (-3) = True := eq_true (by decide)
theorem ab_ri_m4 : ab_inR (-4) = True := eq_true (by decide)
theorem ab_ri_m5 : ab_inR (-5) = True := eq_true (by decide)
theorem ab_ri_m11 : ab_inR (-11) = True := eq_true (by decide)
theorem ab_ri_m13 : ab_inR (-13) = True := eq_true (by decide)
theorem ab_ri_m14 : ab_inR (-14) = True := eq_true (by decide)
theorem ab_ri_10 : ab_inR 10 = True := eq_true (by decide)
theorem ab_tt : (true = true) = True := eq_self true
theorem ab_01r {c : Prop} {_ : Decidable c} : (ab_inR (if c then 1 else 0)) = True := by
  split <;> exact eq_true ⟨by decide, by decide⟩
theorem ab_01z {c : Prop} {_ : Decidable c} : ((if c then (1 : Int) else 0) = 0) = ¬ c := by
  split <;> simp_all
theorem ab_01n {c : Prop} {_ : Decidable c} : ((if c then (1 : Int) else 0) = 1) = c := by
  split <;> simp_all
theorem ab_dn {P : Int → Prop} {a e : Int} (h : a ≤ e) (he : P e) (hs : ∀ i, a ≤ i → i < e → P (i + 1) → P i) : P a := by
  have key : ∀ (m : Nat) (i : Int), a ≤ i → i + m = e → P i := by
    intro m
    induction m with
    | zero => intro i _ hi; rw [show i = e by omega]; exact he
    | succ m ih => intro i ha hi; exact hs i ha (by omega) (ih (i + 1) (by omega) (by omega))
  exact key (e - a).toNat a (Int.le_refl _) (by omega)
theorem ab_hs_self {h : ab_H} {a : Nat} {c : ab_C} : ab_hs h a c a = some c := if_pos rfl
theorem ab_hs_ne {h : ab_H} {a b : Nat} {c : ab_C} (e : b ≠ a) : ab_hs h a c b = h b := if_neg e
theorem ab_hs_hs {h : ab_H} {a : Nat} {c d : ab_C} : ab_hs (ab_hs h a c) a d = ab_hs h a d := by
  funext b
  unfold ab_hs
  by_cases e : b = a <;> simp [e]
theorem ab_hs_id {h : ab_H} {a : Nat} {c : ab_C} (e : h a = some c) : ab_hs h a c = h := by
  funext b
  unfold ab_hs
  by_cases q : b = a
  · rw [if_pos q, q, e]
  · rw [if_neg q]
theorem ab_hs_cm {h : ab_H} {a b : Nat} {c d : ab_C} (e : a ≠ b) : ab_hs (ab_hs h a c) b d = ab_hs (ab_hs h b d) a c := by
  funext x
  unfold ab_hs
  by_cases q : x = a
  · by_cases r : x = b
    · exact absurd (q.symm.trans r) e
    · simp [q, e]
  · by_cases r : x = b
    · have z : ¬ b = a := fun z => e z.symm
      simp [r, z]
    · simp [q, r]
/-- g on a .. i - 1, else f -/
def ab_fi {α : Type} (g f : Int → α) (a i : Int) : Int → α := fun j => if a ≤ j ∧ j < i then g j else f j
theorem ab_fi_0 {α : Type} {g f : Int → α} {a : Int} : ab_fi g f a a = f := by
  funext j
  unfold ab_fi
  rw [if_neg (by omega)]
theorem ab_fi_s {α : Type} {g f : Int → α} {a i : Int} {x : α} (h : a ≤ i) (hx : x = g i) : ab_ui (ab_fi g f a i) i x = ab_fi g f a (i + 1) := by
  subst hx
  funext j
  unfold ab_ui ab_fi
  by_cases e : j = i
  · subst e; rw [if_pos rfl, if_pos (by omega)]
  · rw [if_neg e]
    by_cases c : a ≤ j ∧ j < i
    · rw [if_pos c, if_pos (by omega)]
    · rw [if_neg c, if_neg (by omega)]
theorem ab_fi_hi {α : Type} {g f : Int → α} {a i j : Int} (h : i ≤ j) : ab_fi g f a i j = f j := if_neg (by omega)
theorem ab_fi_lo {α : Type} {g f : Int → α} {a i j : Int} (h : a ≤ j ∧ j < i) : ab_fi g f a i j = g j := if_pos h
theorem ab_md {x : Int} (h : 0 ≤ x) : x.tmod 101 = x % 101 := Int.tmod_eq_emod_of_nonneg h
/-- a counting loop: its locals and its heap by the counter -/
theorem ab_lp {k pc : Nat} {L : ab_L} {S : List ab_V} {h : ab_H} {n : Nat} {u : Nat × Nat} {Q : ab_Q} (a e : Int) (LL : Int → ab_L) (HH : Int → ab_H) (ha : a ≤ e) (hL : L = LL a) (hH : h = HH a) (hx : ab_G k pc (LL e) S (HH e) n u Q)
    (hs : ∀ i, a ≤ i → i < e → ab_G k pc (LL (i + 1)) S (HH (i + 1)) n u Q → ab_G k pc (LL i) S (HH i) n u Q) : ab_G k pc L S h n u Q := by
  rw [hL, hH]
  exact ab_dn (P := fun i => ab_G k pc (LL i) S (HH i) n u Q) ha hx hs
