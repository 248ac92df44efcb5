/-! ===== elimination ends in one way only: pivots and free columns ===== -/
def ab_pcn (g : Int → Int) : Nat → Int
  | 0 => 0
  | k + 1 => ab_pcn g k + (if 0 ≤ g k then 1 else 0)
theorem ab_pcn_b {g : Int → Int} : ∀ k : Nat, 0 ≤ ab_pcn g k ∧ ab_pcn g k ≤ k
  | 0 => by unfold ab_pcn; omega
  | k + 1 => by
    have := ab_pcn_b (g := g) k
    unfold ab_pcn
    split <;> omega
theorem ab_pcn_le {g : Int → Int} {j : Nat} : ∀ k : Nat, j ≤ k → ab_pcn g j ≤ ab_pcn g k
  | 0, h => by
    have : j = 0 := by omega
    rw [this]
    exact Int.le_refl _
  | k + 1, h => by
    by_cases e : j = k + 1
    · rw [e]
      exact Int.le_refl _
    · have ih := ab_pcn_le (g := g) (j := j) k (by omega)
      rw [ab_pcn]
      split <;> omega
theorem ab_pcn_lt {g : Int → Int} {j k : Nat} (hj : 0 ≤ g j) (h : j < k) : ab_pcn g j + 1 ≤ ab_pcn g k := by
  have := ab_pcn_le (g := g) (j := j + 1) k (by omega)
  rw [ab_pcn, if_pos hj] at this
  exact this
theorem ab_pcn_cg {g g' : Int → Int} : ∀ k : Nat, (∀ j : Nat, j < k → (0 ≤ g j ↔ 0 ≤ g' j)) → ab_pcn g k = ab_pcn g' k
  | 0, _ => rfl
  | k + 1, h => by
    rw [ab_pcn, ab_pcn, ab_pcn_cg k (fun j hj => h j (by omega))]
    have := h k (by omega)
    by_cases c : 0 ≤ g k
    · rw [if_pos c, if_pos (this.mp c)]
    · rw [if_neg c, if_neg (fun z => c (this.mpr z))]
theorem ab_pcn_hit {g : Int → Int} : ∀ (k : Nat) (r : Int), 0 ≤ r → r < ab_pcn g k → ∃ j : Nat, j < k ∧ 0 ≤ g j ∧ ab_pcn g j = r
  | 0, r, h0, h1 => absurd h0 (by unfold ab_pcn at h1; omega)
  | k + 1, r, h0, h1 => by
    by_cases c : r < ab_pcn g k
    · obtain ⟨j, j1, j2, j3⟩ := ab_pcn_hit k r h0 c
      exact ⟨j, by omega, j2, j3⟩
    · rw [ab_pcn] at h1
      by_cases d : 0 ≤ g k
      · rw [if_pos d] at h1
        exact ⟨k, by omega, d, by omega⟩
      · rw [if_neg d] at h1
        omega
theorem ab_pcn_ui {g : Int → Int} {k : Nat} {x : Int} {j : Nat} (h : j ≤ k) : ab_pcn (ab_ui g k x) j = ab_pcn g j := ab_pcn_cg j fun i hi => by
  rw [ab_ui_ne (by omega)]
/-- the rows behind k columns: what they take to 0 is the same; columns that hold a step, and columns that don't -/
def ab_rf (R : Int) (C : Nat) (M : Int → Int → Int) (k : Nat) (N : Int → Int → Int) (g : Int → Int) (F : Int) : Prop :=
  (∀ x, ab_ker N R C x ↔ ab_ker M R C x) ∧ F = ab_pcn g k ∧ (∀ j : Nat, j < k → (g j = -1 ∨ g j = ab_pcn g j)) ∧ (∀ j : Nat, j < k → 0 ≤ g j → ∀ r, 0 ≤ r → r < R → N r j = if r = g j then 1 else 0) ∧ (∀ j : Nat, j < k → g j < 0 → ∀ r, ab_pcn g j ≤ r → r < R → N r j = 0)
theorem ab_rf_0 {R : Int} {C : Nat} {M N : Int → Int → Int} {k : Nat} {g : Int → Int} {F : Int} (h : ab_rf R C M k N g F) (hF : 0 ≤ F) {j : Nat} (hj : j < k) {r : Int} (r0 : F ≤ r) (r1 : r < R) : N r j = 0 := by
  obtain ⟨h1, h2, h3, h4, h5⟩ := h
  by_cases c : 0 ≤ g j
  · have e : g j = ab_pcn g j := by rcases h3 j hj with e | e <;> omega
    have := ab_pcn_lt c hj
    rw [h4 j hj c r (by omega) r1, if_neg (by omega)]
  · have := ab_pcn_le (g := g) (j := j) k (by omega)
    exact h5 j hj (by omega) r (by omega) r1
theorem ab_rf_tail {R : Int} {C : Nat} {M N : Int → Int → Int} {k : Nat} {g : Int → Int} {F : Int} (hv : ab_v2 N) (hR : R ≤ 12) (hC : C ≤ 7) (hk : k < C) (hF : 0 ≤ F ∧ F < R) (hp : N F k ≠ 0) (h : ab_rf R C M k N g F) : ab_rf R C M (k + 1) (ab_cl (ab_mw N F (ab_inv (N F k)) C) k F C R.toNat) (ab_ui g k F) (F + 1) := by
  have hz : ∀ j : Nat, j < k → N F j = 0 := fun j hj => ab_rf_0 h hF.1 hj (Int.le_refl F) hF.2
  obtain ⟨h1, h2, h3, h4, h5⟩ := h
  have hpr := hv F k hF.1 (by omega) (by omega) (by omega)
  have him := ab_inv_m (x := N F k) (by omega) (by omega)
  revert him
  generalize ab_inv (N F k) = y
  intro him
  have hN2 := ab_cl_row (M := ab_mw N F y C) (col := k) (pr := F) (C := C) R.toNat
  have m1 : ab_mw N F y C F k = 1 := by
    unfold ab_mw
    rw [if_pos ⟨rfl, by omega, by omega⟩, him]
  have m2 : ∀ j : Nat, j < k → ∀ r, ab_mw N F y C r j = N r j := by
    intro j hj r
    unfold ab_mw
    by_cases e : r = F
    · rw [if_pos ⟨e, by omega, by omega⟩, e, hz j hj, Int.zero_mul]
      rfl
    · rw [if_neg (fun z => e z.1)]
  have c1 : ∀ j : Nat, j < k → ∀ r, 0 ≤ r → r < R → ab_cl (ab_mw N F y C) k F C R.toNat r j = N r j := by
    intro j hj r r0 r1
    rw [hN2, m2 j hj, m2 j hj, hz j hj, Int.mul_zero, Int.add_zero]
    have := hv r j r0 (by omega) (by omega) (by omega)
    split <;> omega
  have c2 : ∀ r, 0 ≤ r → r < R → ab_cl (ab_mw N F y C) k F C R.toNat r k = if r = F then 1 else 0 := by
    intro r r0 r1
    rw [hN2, m1, Int.mul_one]
    by_cases e : r = F
    · rw [if_neg (fun z => z.2.2.1 e), if_pos e, e, m1]
    · rw [if_neg e]
      by_cases z : ab_mw N F y C r k = 0
      · rw [if_neg (fun w => w.2.2.2.1 z), z]
      · rw [if_pos ⟨r0, by omega, e, z, by omega, by omega⟩]
        omega
  refine ⟨fun x => ?_, ?_, fun j hj => ?_, fun j hj gj r r0 r1 => ?_, fun j hj gj r r0 r1 => ?_⟩
  · exact ((ab_ker_cl hF R.toNat).trans (ab_ker_mw (z := N F k) him)).trans (h1 x)
  · rw [ab_pcn, ab_pcn_ui (Nat.le_refl k), ab_ui_at, if_pos hF.1, h2]
  · rw [ab_pcn_ui (by omega)]
    by_cases e : j = k
    · subst e
      rw [ab_ui_at]
      exact Or.inr h2
    · rw [ab_ui_ne (by omega)]
      exact h3 j (by omega)
  · by_cases e : j = k
    · subst e
      rw [ab_ui_at]
      exact c2 r r0 r1
    · rw [ab_ui_ne (by omega)] at gj ⊢
      rw [c1 j (by omega) r r0 r1]
      exact h4 j (by omega) gj r r0 r1
  · rw [ab_pcn_ui (by omega)] at r0
    by_cases e : j = k
    · subst e
      rw [ab_ui_at] at gj
      omega
    · rw [ab_ui_ne (by omega)] at gj
      have := ab_pcn_b (g := g) j
      rw [c1 j (by omega) r (by omega) r1]
      exact h5 j (by omega) gj r r0 r1
theorem ab_rf_rd {R : Int} {C : Nat} {M : Int → Int → Int} {g : Int → Int} (hR : 0 ≤ R ∧ R ≤ 12) (hC : C ≤ 7) (hv : ab_v2 M) : ∀ k : Nat, k ≤ C → ab_rf R C M k (ab_rd R C M g k).1 (ab_rd R C M g k).2.1 (ab_rd R C M g k).2.2.1
  | 0, _ => ⟨fun _ => Iff.rfl, rfl, fun j hj => absurd hj (by omega), fun j hj => absurd hj (by omega), fun j hj => absurd hj (by omega)⟩
  | k + 1, hk => by
    have ih := ab_rf_rd (g := g) hR hC hv k (by omega)
    have ok := ab_rd_ok (C := (C : Int)) (g := g) hR.1 hR.2 hv k
    rw [ab_rd]
    revert ih ok
    generalize ab_rd R C M g k = z
    obtain ⟨N, g', F, P⟩ := z
    intro ih ok
    obtain ⟨o1, o2, o3, o4, o5⟩ := ok
    simp only at o1 o2 o3 o4 o5 ih ⊢
    have hpv := ab_pv_r (M := N) (c := k) (R - F).toNat F
    unfold ab_rdx
    simp only
    by_cases c1 : ab_pv N k F (R - F).toNat < 0
    · rw [if_pos c1]
      have hz := ab_pv_lt (M := N) (c := k) (R - F).toNat F o2 c1
      obtain ⟨h1, h2, h3, h4, h5⟩ := ih
      simp only
      refine ⟨h1, ?_, fun j hj => ?_, fun j hj gj r r0 r1 => ?_, fun j hj gj r r0 r1 => ?_⟩
      · rw [ab_pcn, ab_pcn_ui (Nat.le_refl k), ab_ui_at, if_neg (by omega), Int.add_zero]
        exact h2
      · rw [ab_pcn_ui (by omega)]
        by_cases e : j = k
        · subst e
          rw [ab_ui_at]
          exact Or.inl rfl
        · rw [ab_ui_ne (by omega)]
          exact h3 j (by omega)
      · by_cases e : j = k
        · subst e
          rw [ab_ui_at] at gj
          omega
        · rw [ab_ui_ne (by omega)] at gj ⊢
          exact h4 j (by omega) gj r r0 r1
      · rw [ab_pcn_ui (by omega)] at r0
        by_cases e : j = k
        · subst e
          exact hz r (by omega) (by omega)
        · rw [ab_ui_ne (by omega)] at gj
          exact h5 j (by omega) gj r r0 r1
    · rw [if_neg c1]
      have hp3 : F ≤ ab_pv N k F (R - F).toNat ∧ ab_pv N k F (R - F).toNat < R ∧ N (ab_pv N k F (R - F).toNat) k ≠ 0 := by
        rcases hpv with e | ⟨e1, e2, e3⟩
        · omega
        · exact ⟨e1, by omega, e3⟩
      by_cases c2 : ab_pv N k F (R - F).toNat = F
      · rw [if_pos c2]
        rw [c2] at hp3
        exact ab_rf_tail o1 hR.2 hC (by omega) ⟨o2, hp3.2.1⟩ hp3.2.2 ih
      · rw [if_neg c2]
        have v1 : ab_v2 (ab_sw N (ab_pv N k F (R - F).toNat) F C) := ab_v2_sw o1 ⟨by omega, by omega⟩ ⟨by omega, by omega⟩
        have e00 : ab_sw N (ab_pv N k F (R - F).toNat) F C F k = N (ab_pv N k F (R - F).toNat) k := by
          unfold ab_sw
          rw [if_pos ⟨by omega, by omega⟩, if_neg (Ne.symm c2), if_pos rfl]
        have ej : ∀ j : Nat, j < k → ∀ r, 0 ≤ r → r < R → ab_sw N (ab_pv N k F (R - F).toNat) F C r j = N r j := by
          intro j hj r r0 r1
          have z1 := ab_rf_0 ih o2 hj (r := F) (Int.le_refl F) (by omega)
          have z2 := ab_rf_0 ih o2 hj (r := ab_pv N k F (R - F).toNat) hp3.1 hp3.2.1
          unfold ab_sw
          rw [if_pos ⟨by omega, by omega⟩]
          by_cases e1 : r = ab_pv N k F (R - F).toNat
          · rw [if_pos e1, e1, z1, z2]
          · rw [if_neg e1]
            by_cases e2 : r = F
            · rw [if_pos e2, e2, z1, z2]
            · rw [if_neg e2]
        have ih2 : ab_rf R C M k (ab_sw N (ab_pv N k F (R - F).toNat) F C) g' F := by
          obtain ⟨h1, h2, h3, h4, h5⟩ := ih
          refine ⟨fun x => (ab_ker_sw ⟨by omega, hp3.2.1⟩ ⟨o2, by omega⟩).trans (h1 x), h2, h3, fun j hj gj r r0 r1 => ?_, fun j hj gj r r0 r1 => ?_⟩
          · rw [ej j hj r r0 r1]
            exact h4 j hj gj r r0 r1
          · have := ab_pcn_b (g := g') j
            rw [ej j hj r (by omega) r1]
            exact h5 j hj gj r r0 r1
        exact ab_rf_tail v1 hR.2 hC (by omega) ⟨o2, by omega⟩ (by rw [e00]; exact hp3.2.2) ih2
/-- a column is free where something ends in it that goes to 0 -/
theorem ab_rf_free {R : Int} {C : Nat} {M N : Int → Int → Int} {g : Int → Int} {F : Int} (hFR : F ≤ R) (h : ab_rf R C M C N g F) {c : Nat} (hc : c < C) : g c < 0 ↔ ∃ x : Int → Int, ab_ker M R C x ∧ x c = 1 ∧ ∀ j : Nat, c < j → j < C → x j = 0 := by
  obtain ⟨h1, h2, h3, h4, h5⟩ := h
  have piv : ∀ j : Nat, j < C → 0 ≤ g j → g j = ab_pcn g j := fun j hj gj => by rcases h3 j hj with e | e <;> omega
  constructor
  · intro gc
    refine ⟨fun j => if j = c then 1 else if 0 ≤ j ∧ j < c ∧ 0 ≤ g j then -N (g j) c else 0, (h1 _).mp fun r r0 r1 => ?_, if_pos rfl, fun j j0 j1 => ?_⟩
    · by_cases hr : r < ab_pcn g c
      · obtain ⟨j0, a1, a2, a3⟩ := ab_pcn_hit c r r0 hr
        have ea := piv j0 (by omega) a2
        rw [ab_dt2 (a := j0) (b := c) (by omega) (by omega) (by omega) C (fun j b0 b1 n1 n2 => ?_), if_pos (show (j0 : Int) < (C : Int) by omega), if_pos (show (c : Int) < (C : Int) by omega), if_neg (show ¬ (j0 : Int) = c by omega), if_pos (show 0 ≤ (j0 : Int) ∧ (j0 : Int) < c ∧ 0 ≤ g j0 from ⟨by omega, by omega, a2⟩), if_pos rfl, h4 j0 (by omega) a2 r r0 r1, if_pos (show r = g j0 by omega), show g j0 = r by omega, Int.one_mul, Int.mul_one, Int.add_left_neg]
        · rfl
        · rw [if_neg n2]
          by_cases d : 0 ≤ j ∧ j < c ∧ 0 ≤ g j
          · have ej : ((j.toNat : Nat) : Int) = j := Int.toNat_of_nonneg d.1
            have gj : 0 ≤ g ((j.toNat : Nat) : Int) := by rw [ej]; exact d.2.2
            have q := h4 j.toNat (by omega) gj r r0 r1
            have q2 := piv j.toNat (by omega) gj
            rw [ej] at q q2
            rw [q, if_neg, Int.zero_mul]
            intro z
            by_cases w : j.toNat < j0
            · have := ab_pcn_lt gj w
              omega
            · have := ab_pcn_lt a2 (show j0 < j.toNat by omega)
              omega
          · rw [if_neg d, Int.mul_zero]
      · rw [ab_dt0 C (fun j b0 b1 => ?_)]
        · rfl
        · by_cases n2 : j = c
          · rw [n2, h5 c hc gc r (by omega) r1, Int.zero_mul]
          · rw [if_neg n2]
            by_cases d : 0 ≤ j ∧ j < c ∧ 0 ≤ g j
            · have ej : ((j.toNat : Nat) : Int) = j := Int.toNat_of_nonneg d.1
              have gj : 0 ≤ g ((j.toNat : Nat) : Int) := by rw [ej]; exact d.2.2
              have q := h4 j.toNat (by omega) gj r r0 r1
              have q2 := piv j.toNat (by omega) gj
              have q3 := ab_pcn_lt gj (show j.toNat < c by omega)
              rw [ej] at q q2
              rw [q, if_neg (by omega), Int.zero_mul]
            · rw [if_neg d, Int.mul_zero]
    · show (if (j : Int) = c then _ else _) = _
      rw [if_neg (by omega), if_neg (by omega)]
  · intro ⟨x, k1, k2, k3⟩
    by_cases gc : g c < 0
    · exact gc
    · exfalso
      have gc : 0 ≤ g c := by omega
      have ec := piv c hc gc
      have lt := ab_pcn_lt gc hc
      have kr := (h1 x).mpr k1 (g c) gc (by omega)
      rw [ab_dt1 (a := c) (by omega) (by omega) (fun j b0 b1 n1 => ?_), h4 c hc gc (g c) gc (by omega), if_pos rfl, k2] at kr
      · exact absurd kr (by decide)
      · have ej : ((j.toNat : Nat) : Int) = j := Int.toNat_of_nonneg b0
        by_cases d : j < c
        · have z : N (g c) ((j.toNat : Nat) : Int) = 0 := by
            by_cases gj : 0 ≤ g ((j.toNat : Nat) : Int)
            · have q2 := piv j.toNat (by omega) gj
              have q3 := ab_pcn_lt gj (show j.toNat < c by omega)
              rw [h4 j.toNat (by omega) gj (g c) gc (by omega), if_neg (by omega)]
            · have q3 := ab_pcn_le (g := g) (j := j.toNat) c (by omega)
              exact h5 j.toNat (by omega) (by omega) (g c) (by omega) (by omega)
          rw [ej] at z
          rw [z, Int.zero_mul]
        · have z := k3 j.toNat (by omega) (by omega)
          rw [ej] at z
          rw [z, Int.mul_zero]
theorem ab_rf_same {R : Int} {C : Nat} {M M' N N' : Int → Int → Int} {g g' : Int → Int} {F F' : Int} (hF : F ≤ R) (hF' : F' ≤ R) (h : ab_rf R C M C N g F) (h' : ab_rf R C M' C N' g' F') (hk : ∀ x, ab_ker M R C x ↔ ab_ker M' R C x) : F = F' ∧ ∀ c : Nat, c < C → g c = g' c := by
  have e : ∀ c : Nat, c < C → (0 ≤ g c ↔ 0 ≤ g' c) := by
    intro c hc
    have e1 := ab_rf_free hF h hc
    have e2 := ab_rf_free hF' h' hc
    have e3 : g c < 0 ↔ g' c < 0 := e1.trans (Iff.trans ⟨fun ⟨x, a, b⟩ => ⟨x, (hk x).mp a, b⟩, fun ⟨x, a, b⟩ => ⟨x, (hk x).mpr a, b⟩⟩ e2.symm)
    omega
  refine ⟨?_, fun c hc => ?_⟩
  · rw [h.2.1, h'.2.1]
    exact ab_pcn_cg C e
  · have e0 := ab_pcn_cg (g := g) (g' := g') c (fun j hj => e j (by omega))
    have e1 := h.2.2.1 c hc
    have e2 := h'.2.2.1 c hc
    have e3 := e c hc
    have e4 := ab_pcn_b (g := g) c
    omega
/-! one free column -/
theorem ab_pcn_1 {g : Int → Int} {i : Nat} (hi : g i < 0) : ∀ k : Nat, i < k → ab_pcn g k ≤ k - 1
  | 0, h => absurd h (by omega)
  | k + 1, h => by
    rw [ab_pcn]
    by_cases e : i = k
    · subst e
      have := ab_pcn_b (g := g) i
      rw [if_neg (by omega)]
      omega
    · have := ab_pcn_1 hi k (by omega)
      split <;> omega
theorem ab_pcn_2 {g : Int → Int} {i j : Nat} (hi : g i < 0) (hj : g j < 0) (hij : i < j) : ∀ k : Nat, j < k → ab_pcn g k ≤ k - 2
  | 0, h => absurd h (by omega)
  | k + 1, h => by
    rw [ab_pcn]
    by_cases e : j = k
    · subst e
      have := ab_pcn_1 hi j hij
      rw [if_neg (by omega)]
      omega
    · have := ab_pcn_2 hi hj hij k (by omega)
      split <;> omega
theorem ab_pcn_all {g : Int → Int} : ∀ k : Nat, (∀ j : Nat, j < k → 0 ≤ g j) → ab_pcn g k = k
  | 0, _ => rfl
  | k + 1, h => by
    rw [ab_pcn, ab_pcn_all k (fun j hj => h j (by omega)), if_pos (h k (by omega))]
    rfl
theorem ab_fc_f {g : Int → Int} : ∀ (k : Nat) (c : Nat), (∃ j : Nat, c ≤ j ∧ j < c + k ∧ g j < 0) → ∃ f : Nat, ab_fc g c k = f ∧ c ≤ f ∧ f < c + k ∧ g f < 0
  | 0, c, ⟨j, j0, j1, _⟩ => absurd j0 (by omega)
  | k + 1, c, ⟨j, j0, j1, j2⟩ => by
    unfold ab_fc
    by_cases z : g c < 0
    · rw [if_pos z]
      exact ⟨c, rfl, by omega, by omega, z⟩
    · rw [if_neg z]
      have hj : j ≠ c := fun e => z (by rw [← e]; exact j2)
      obtain ⟨f, f1, f2, f3, f4⟩ := ab_fc_f (g := g) k (c + 1) ⟨j, by omega, by omega, j2⟩
      exact ⟨f, f1, by omega, by omega, f4⟩
/-- with one column free: which it is, and where the steps stand -/
theorem ab_one_free {g : Int → Int} {C : Nat} (h : ab_pcn g C = C - 1) (hC : 1 ≤ C) : ∃ f : Nat, ab_fc g 0 C = f ∧ f < C ∧ g f < 0 ∧ (∀ j : Nat, j < C → j ≠ f → 0 ≤ g j) ∧ ∀ k : Nat, k ≤ C → ab_pcn g k = if k ≤ f then (k : Int) else (k : Int) - 1 := by
  have ex : ∃ j : Nat, 0 ≤ j ∧ j < 0 + C ∧ g j < 0 := by
    by_cases a : ∀ j : Nat, j < C → 0 ≤ g j
    · have := ab_pcn_all C a
      omega
    · have ⟨j, hj⟩ := Classical.not_forall.mp a
      have ⟨j1, j2⟩ := Classical.not_imp.mp hj
      exact ⟨j, by omega, by omega, by omega⟩
  obtain ⟨f, f1, f2, f3, f4⟩ := ab_fc_f (g := g) C 0 ex
  have oth : ∀ j : Nat, j < C → j ≠ f → 0 ≤ g j := by
    intro j hj hne
    by_cases z : 0 ≤ g j
    · exact z
    · by_cases w : j < f
      · have := ab_pcn_2 (i := j) (j := f) (g := g) (by omega) f4 w C (by omega)
        omega
      · have := ab_pcn_2 (i := f) (j := j) (g := g) f4 (by omega) (by omega) C hj
        omega
  refine ⟨f, f1, by omega, f4, oth, fun k => ?_⟩
  induction k with
  | zero =>
    intro _
    rw [if_pos (by omega)]
    rfl
  | succ k ih =>
    intro hk
    rw [ab_pcn, ih (by omega)]
    by_cases e : k = f
    · subst e
      rw [if_pos (Nat.le_refl k), if_neg (by omega), if_neg (by omega)]
      omega
    · rw [if_pos (oth k (by omega) e)]
      by_cases w : k ≤ f
      · rw [if_pos w, if_pos (by omega)]
        omega
      · rw [if_neg w, if_neg (by omega)]
        omega
theorem ab_raw_same {R : Int} {C : Nat} {M M' N N' : Int → Int → Int} {g g' : Int → Int} {F F' : Int} {f : Nat} (hF : F ≤ R) (hF' : F' ≤ R) (h : ab_rf R C M C N g F) (h' : ab_rf R C M' C N' g' F') (hk : ∀ x, ab_ker M R C x ↔ ab_ker M' R C x) (hf : f < C) (gf : g f < 0) (oth : ∀ j : Nat, j < C → j ≠ f → 0 ≤ g j) {c : Nat} (hc : c < C) : ab_raw N g c f = ab_raw N' g' c f := by
  have same := ab_rf_same hF hF' h h' hk
  obtain ⟨h1, h2, h3, h4, h5⟩ := h
  have h0 := h'
  obtain ⟨h1', h2', h3', h4', h5'⟩ := h'
  have piv : ∀ j : Nat, j < C → 0 ≤ g j → g j = ab_pcn g j := fun j hj gj => by rcases h3 j hj with e | e <;> omega
  have kx : ab_ker N R C (fun j => ab_raw N g j f) := by
    intro r r0 r1
    by_cases hr : r < F
    · obtain ⟨j0, a1, a2, a3⟩ := ab_pcn_hit (g := g) C r r0 (by omega)
      have ea := piv j0 (by omega) a2
      have jf : (j0 : Int) ≠ f := fun e => by
        rw [e] at a2
        omega
      rw [ab_dt2 (a := j0) (b := f) (by omega) (by omega) jf C (fun j b0 b1 n1 n2 => ?_), if_pos (show (j0 : Int) < (C : Int) by omega), if_pos (show (f : Int) < (C : Int) by omega), h4 j0 a1 a2 r r0 r1, if_pos (show r = g j0 by omega)]
      · unfold ab_raw
        rw [if_neg (by omega), if_pos gf, show g j0 = r by omega, Int.one_mul, Int.mul_one]
        omega
      · have ej : ((j.toNat : Nat) : Int) = j := Int.toNat_of_nonneg b0
        have gj := oth j.toNat (by omega) (by omega)
        have q := h4 j.toNat (by omega) gj r r0 r1
        have q2 := piv j.toNat (by omega) gj
        rw [ej] at q q2
        rw [q, if_neg, Int.zero_mul]
        intro z
        by_cases w : j.toNat < j0
        · have := ab_pcn_lt gj w
          omega
        · have := ab_pcn_lt a2 (show j0 < j.toNat by omega)
          omega
    · rw [ab_dt0 C (fun j b0 b1 => ?_)]
      · rfl
      · have ej : ((j.toNat : Nat) : Int) = j := Int.toNat_of_nonneg b0
        have z := ab_rf_0 ⟨h1, h2, h3, h4, h5⟩ (by have := ab_pcn_b (g := g) C; omega) (j := j.toNat) (by omega) (r := r) (by omega) r1
        rw [ej] at z
        rw [z, Int.zero_mul]
  have kx' := (h1' _).mpr ((hk _).mp ((h1 _).mp kx))
  have eg := same.2 c hc
  by_cases gc : g c < 0
  · unfold ab_raw
    rw [if_pos gc, if_pos (by omega)]
  · have gc' : 0 ≤ g' c := by omega
    have ec : g' c = ab_pcn g' c := by rcases h3' c hc with e | e <;> omega
    have lt := ab_pcn_lt gc' hc
    have cf : (c : Int) ≠ f := fun e => by
      rw [e] at gc
      omega
    have k := kx' (g' c) gc' (by omega)
    rw [ab_dt2 (a := c) (b := f) (by omega) (by omega) cf C (fun j b0 b1 n1 n2 => ?_), if_pos (show (c : Int) < (C : Int) by omega), if_pos (show (f : Int) < (C : Int) by omega), h4' c hc gc' (g' c) gc' (by omega), if_pos rfl, Int.one_mul] at k
    · have ef : ab_raw N g f f = 1 := if_pos gf
      have rr := ab_raw_r (M := N) (g := g) (c := c) (free := f)
      rw [ef, Int.mul_one] at k
      have : ab_raw N' g' c f = -N' (g' c) f % 101 := if_neg (by omega)
      omega
    · have ej : ((j.toNat : Nat) : Int) = j := Int.toNat_of_nonneg b0
      have gj := oth j.toNat (by omega) (by omega)
      have sj := same.2 j.toNat (by omega)
      have gj' : 0 ≤ g' ((j.toNat : Nat) : Int) := by omega
      have q := h4' j.toNat (by omega) gj' (g' c) gc' (by omega)
      have q2 : g' ((j.toNat : Nat) : Int) = ab_pcn g' j.toNat := by rcases h3' j.toNat (by omega) with e | e <;> omega
      rw [ej] at q q2 gj'
      rw [q, if_neg, Int.zero_mul]
      intro z
      by_cases w : j.toNat < c
      · have := ab_pcn_lt (g := g') (j := j.toNat) (by rw [ej]; exact gj') w
        omega
      · have := ab_pcn_lt gc' (show c < j.toNat by omega)
        omega
