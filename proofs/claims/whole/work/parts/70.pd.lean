/-! ===== how often the weight is in a number ===== -/
def ab_PD : Nat → (Int → Int) → Prop
  | 0, f => ∀ x, f x % 101 = 0
  | d + 1, f => ab_PD d (fun x => f (x + 1) - f x)
theorem ab_PD_m : ∀ (d : Nat) (f g : Int → Int), (∀ x, f x % 101 = g x % 101) → ab_PD d f → ab_PD d g
  | 0, _, _, h, p => fun x => (h x).symm.trans (p x)
  | d + 1, f, g, h, p => ab_PD_m d (fun x => f (x + 1) - f x) (fun x => g (x + 1) - g x) (fun x => by
      have h1 := h x
      have h2 := h (x + 1)
      show (f (x + 1) - f x) % 101 = (g (x + 1) - g x) % 101
      omega) p
theorem ab_PD_z : ∀ (d : Nat) (f : Int → Int), (∀ x, f x % 101 = 0) → ab_PD d f
  | 0, _, h => h
  | d + 1, f, h => ab_PD_z d (fun x => f (x + 1) - f x) (fun x => by
      have h1 := h x
      have h2 := h (x + 1)
      show (f (x + 1) - f x) % 101 = 0
      omega)
theorem ab_PD_s : ∀ (d : Nat) (f : Int → Int), ab_PD d f → ab_PD (d + 1) f
  | 0, f, p => ab_PD_z 1 f p
  | d + 1, f, p => ab_PD_s d (fun x => f (x + 1) - f x) p
theorem ab_PD_le {f : Int → Int} {d : Nat} (p : ab_PD d f) : ∀ e : Nat, d ≤ e → ab_PD e f
  | 0, h => by
    have : d = 0 := by omega
    subst this
    exact p
  | e + 1, h => by
    by_cases c : d = e + 1
    · subst c
      exact p
    · exact ab_PD_s e f (ab_PD_le p e (by omega))
theorem ab_PD_add : ∀ (d : Nat) (f g : Int → Int), ab_PD d f → ab_PD d g → ab_PD d (fun x => f x + g x)
  | 0, f, g, p, q => fun x => by
    have h1 := p x
    have h2 := q x
    show (f x + g x) % 101 = 0
    omega
  | d + 1, f, g, p, q => ab_PD_m d _ _ (fun x => by
      show (f (x + 1) - f x + (g (x + 1) - g x)) % 101 = (f (x + 1) + g (x + 1) - (f x + g x)) % 101
      omega) (ab_PD_add d (fun x => f (x + 1) - f x) (fun x => g (x + 1) - g x) p q)
theorem ab_PD_sh : ∀ (d : Nat) (f : Int → Int), ab_PD d f → ab_PD d (fun x => f (x + 1))
  | 0, _, p => fun x => p (x + 1)
  | d + 1, f, p => ab_PD_sh d (fun x => f (x + 1) - f x) p
theorem ab_PD_mul : ∀ (s a b : Nat) (f g : Int → Int), a + b ≤ s + 1 → ab_PD a f → ab_PD b g → ab_PD s (fun x => f x * g x)
  | s, 0, b, f, g, h, p, q => ab_PD_z s _ (fun x => by
      show (f x * g x) % 101 = 0
      rw [Int.mul_emod, p x, Int.zero_mul]
      rfl)
  | s, a + 1, 0, f, g, h, p, q => ab_PD_z s _ (fun x => by
      show (f x * g x) % 101 = 0
      rw [Int.mul_emod, q x, Int.mul_zero]
      rfl)
  | 0, a + 1, b + 1, f, g, h, p, q => absurd h (by omega)
  | s + 1, a + 1, b + 1, f, g, h, p, q => ab_PD_m s _ _ (fun x => by
      show (f (x + 1) * (g (x + 1) - g x) + (f (x + 1) - f x) * g x) % 101 = (f (x + 1) * g (x + 1) - f x * g x) % 101
      rw [Int.mul_sub, Int.sub_mul]
      omega) (ab_PD_add s (fun x => f (x + 1) * (g (x + 1) - g x)) (fun x => (f (x + 1) - f x) * g x) (ab_PD_mul s (a + 1) b (fun x => f (x + 1)) (fun x => g (x + 1) - g x) (by omega) (ab_PD_sh (a + 1) f p) q) (ab_PD_mul s a (b + 1) (fun x => f (x + 1) - f x) g (by omega) p q))
theorem ab_PD_c {c : Int} : ab_PD 1 (fun _ => c) := fun x => by
  show (c - c) % 101 = 0
  rw [Int.sub_self]
  rfl
theorem ab_PD_cm {d : Nat} {c : Int} {f : Int → Int} (p : ab_PD d f) : ab_PD d (fun x => c * f x) := ab_PD_mul d 1 d (fun _ => c) f (by omega) ab_PD_c p
theorem ab_PD_md {d : Nat} {f : Int → Int} (p : ab_PD d f) : ab_PD d (fun x => f x % 101) := ab_PD_m d f _ (fun x => (Int.emod_emod _ _).symm) p
theorem ab_dl_s {f : Int → Int} : ∀ (d : Nat) (x : Int), ab_dl f (d + 1) x = ab_dl (fun x => f (x + 1) - f x) d x
  | 0, _ => rfl
  | d + 1, x => by
    have h1 := ab_dl_s (f := f) d x
    have h2 := ab_dl_s (f := f) d (x + 1)
    show ab_dl f (d + 1) (x + 1) - ab_dl f (d + 1) x = ab_dl (fun x => f (x + 1) - f x) d (x + 1) - ab_dl (fun x => f (x + 1) - f x) d x
    rw [h1, h2]
theorem ab_PD_dl : ∀ (d : Nat) (f : Int → Int), ab_PD d f → ∀ x, ab_dl f d x % 101 = 0
  | 0, _, p => p
  | d + 1, f, p => fun x => by
    rw [ab_dl_s]
    exact ab_PD_dl d _ p x
theorem ab_PD_sm0 {d : Nat} {F : Int → Int → Int} : ∀ k : Nat, (∀ i : Int, 0 ≤ i → i < k → ab_PD d (F i)) → ab_PD d (fun x => ab_sm0 (fun i => F i x) k)
  | 0, _ => ab_PD_z d _ (fun _ => rfl)
  | k + 1, h => ab_PD_add d (fun x => ab_sm0 (fun i => F i x) k) (F k) (ab_PD_sm0 k (fun i i0 i1 => h i i0 (by omega))) (h k (by omega) (by omega))
/-- sums over rows -/
def ab_se (e : Int → Nat) : Nat → Nat
  | 0 => 0
  | k + 1 => ab_se e k + e k
theorem ab_se_cg {e f : Int → Nat} : ∀ k : Nat, (∀ i : Int, 0 ≤ i → i < k → e i = f i) → ab_se e k = ab_se f k
  | 0, _ => rfl
  | k + 1, h => by
    unfold ab_se
    rw [ab_se_cg k (fun i i0 i1 => h i i0 (by omega)), h k (by omega) (by omega)]
theorem ab_se_sk {e : Int → Nat} {i : Int} (i0 : 0 ≤ i) : ∀ n : Nat, i ≤ n → ab_se (fun r => e (if r < i then r else r + 1)) n + e i = ab_se e (n + 1)
  | 0, h => by
    have : i = 0 := by omega
    rw [this]
    rfl
  | n + 1, h => by
    by_cases c : i = ((n + 1 : Nat) : Int)
    · rw [ab_se_cg (f := e) (n + 1) (fun r r0 r1 => by rw [if_pos (by omega)]), c]
      rfl
    · have ih := ab_se_sk (e := e) i0 n (by omega)
      have e1 : ab_se (fun r => e (if r < i then r else r + 1)) (n + 1) = ab_se (fun r => e (if r < i then r else r + 1)) n + e ((n + 1 : Nat) : Int) := by
        show _ + e (if (n : Int) < i then n else n + 1) = _
        rw [if_neg (by omega)]
        rfl
      have e2 : ab_se e (n + 1 + 1) = ab_se e (n + 1) + e ((n + 1 : Nat) : Int) := rfl
      omega
theorem ab_PD_dd : ∀ (n : Nat) (E : Int → Int → Int → Int) (e : Int → Nat), (∀ r c : Int, 0 ≤ r → r < n → 0 ≤ c → c < n → ab_PD (e r + 1) (E r c)) → ab_PD (ab_se e n + 1) (fun x => ab_dd n (fun r c => E r c x))
  | 0, _, _, _ => ab_PD_c
  | n + 1, E, e, h => by
    refine ab_PD_sm0 (F := fun i x => ab_sgn i * (E i 0 x * ab_dd n (ab_mi i (fun r c => E r c x)))) (n + 1) fun i i0 i1 => ?_
    have ih := ab_PD_dd n (fun r c => E (if r < i then r else r + 1) (c + 1)) (fun r => e (if r < i then r else r + 1)) (fun r c r0 r1 c0 c1 => h _ _ (by split <;> omega) (by split <;> omega) (by omega) (by omega))
    have hs := ab_se_sk (e := e) i0 n (by omega)
    exact ab_PD_cm (ab_PD_mul (ab_se e (n + 1) + 1) (e i + 1) (ab_se (fun r => e (if r < i then r else r + 1)) n + 1) (E i 0) _ (by omega) (h i 0 i0 (by omega) (by omega) (by omega)) ih)
/-! acts -/
theorem ab_PD_att {L : Int → Int} : ∀ (k : Nat) (b c : Int), ab_bb b → ab_bb c → ab_LV b < k → ab_PD (ab_dgx b c).toNat (fun x => ab_att (ab_ui L 2 x) k (b * 19 + c))
  | 0, b, c, hb, hc, h1 => absurd (ab_lv_r hb).1 (by omega)
  | k + 1, b, c, hb, hc, h1 => by
    have ok := ab_dg_ok hb hc
    have lb := ab_lv_r hb
    have lc := ab_lv_r hc
    have u0 : ∀ x, ab_ui L 2 x 0 = L 0 := fun x => ab_ui_ne (by decide)
    have u1 : ∀ x, ab_ui L 2 x 1 = L 1 := fun x => ab_ui_ne (by decide)
    have u3 : ∀ x, ab_ui L 2 x 3 = L 3 := fun x => ab_ui_ne (by decide)
    have u2 : ∀ x, ab_ui L 2 x 2 = x := fun x => ab_ui_at
    have e0 : (fun x => ab_att (ab_ui L 2 x) (k + 1) (b * 19 + c)) = fun x => ab_asx (ab_ui L 2 x) (ab_att (ab_ui L 2 x) k) b c := by
      funext x
      rw [ab_att, ab_as_at hc]
    rw [e0]
    unfold ab_dgok at ok
    unfold ab_asx
    by_cases c1 : b = 0
    · simp only [if_pos c1] at ok ⊢
      have ok := of_decide_eq_true ok
      by_cases c2 : c = ab_START (ab_LV c)
      · simp only [if_pos c2] at ok ⊢
        by_cases c3 : ab_LV c = 0
        · simp only [if_pos c3, u2] at ok ⊢
          refine ab_PD_le (d := 2) (fun x => ?_) _ (by omega)
          show (x + 1 + 1 - (x + 1) - (x + 1 - x)) % 101 = 0
          rw [show x + 1 + 1 - (x + 1) - (x + 1 - x) = 0 by omega]
          rfl
        · simp only [if_neg c3] at ok ⊢
          exact ab_PD_le ab_PD_c _ (by omega)
      · simp only [if_neg c2]
        exact ab_PD_z _ _ (fun _ => rfl)
    · simp only [if_neg c1] at ok ⊢
      by_cases c2 : ab_FIRST b ≤ -(ab_LV b - ab_LV c)
      · simp only [if_pos c2] at ok ⊢
        have ok := of_decide_eq_true ok
        by_cases c3 : c = ab_jn (-(ab_LV b - ab_LV c)) b (ab_START (ab_LV c)) (ab_wd (ab_LV c)).toNat
        · rw [if_pos c3] at ok
          simp only [if_pos c3]
          exact ab_PD_le ab_PD_c _ (by omega)
        · simp only [if_neg c3]
          exact ab_PD_z _ _ (fun _ => rfl)
      · simp only [if_neg c2] at ok ⊢
        obtain ⟨k1, k2, k3, k4, k5, k6⟩ := ab_lv_k hb c1
        simp only [Bool.and_eq_true, decide_eq_true_eq] at ok
        obtain ⟨⟨o1, o2⟩, o3⟩ := ok
        have es : ab_PD (ab_dgx b c).toNat (fun x => ab_asy (ab_ui L 2 x) (ab_att (ab_ui L 2 x) k) b c) := by
          have e1 := ab_PD_att (L := L) k (ab_REST b) c k5 hc (by omega)
          have e2 : ab_PD (ab_dgx b c).toNat (fun x => ab_exd (ab_att (ab_ui L 2 x) k) (ab_REST b) (ab_LV c - ab_FIRST b) c) := by
            unfold ab_exd
            by_cases z : 0 ≤ ab_LV c - ab_FIRST b
            · simp only [if_pos z] at o1 ⊢
              have hw := ab_wd_eq z (by omega)
              have key : ∀ m : Nat, (m : Int) ≤ ab_wd (ab_LV c - ab_FIRST b) → ab_PD (ab_dgx b c).toNat (fun x => ab_exs (ab_att (ab_ui L 2 x) k) (ab_REST b) c (ab_START (ab_LV c - ab_FIRST b)) m) := by
                intro m
                induction m with
                | zero => intro _; exact ab_PD_z _ _ (fun _ => rfl)
                | succ m ih =>
                  intro hm
                  have hl := ab_lv_at z (by omega) (i := m) (by omega) (by omega)
                  have bm : ab_bb (ab_START (ab_LV c - ab_FIRST b) + m) := ⟨by omega, by omega⟩
                  have at0 := ab_dgm_at _ o1 m (by omega) (by omega)
                  have r1 := ab_dg_r k5 bm
                  have r2 := ab_dg_r bm hc
                  have p1 := ab_PD_att (L := L) k (ab_REST b) (ab_START (ab_LV c - ab_FIRST b) + m) k5 bm (by omega)
                  have p2 := ab_PD_att (L := L) k (ab_START (ab_LV c - ab_FIRST b) + m) c bm hc (by omega)
                  refine ab_PD_add _ _ _ (ih (by omega)) ?_
                  rcases at0 with z1 | z1 | z1
                  · rw [show (ab_dgx (ab_REST b) (ab_START (ab_LV c - ab_FIRST b) + m)).toNat = 0 by omega] at p1
                    refine ab_PD_z _ _ (fun x => ?_)
                    have := p1 x
                    rw [Int.mul_emod, this, Int.zero_mul]
                    rfl
                  · rw [show (ab_dgx (ab_START (ab_LV c - ab_FIRST b) + m) c).toNat = 0 by omega] at p2
                    refine ab_PD_z _ _ (fun x => ?_)
                    have := p2 x
                    rw [Int.mul_emod, this, Int.mul_zero]
                    rfl
                  · by_cases z2 : ab_dgx (ab_REST b) (ab_START (ab_LV c - ab_FIRST b) + m) + ab_dgx (ab_START (ab_LV c - ab_FIRST b) + m) c = 0
                    · rw [show (ab_dgx (ab_REST b) (ab_START (ab_LV c - ab_FIRST b) + m)).toNat = 0 by omega] at p1
                      refine ab_PD_z _ _ (fun x => ?_)
                      have := p1 x
                      rw [Int.mul_emod, this, Int.zero_mul]
                      rfl
                    · exact ab_PD_mul _ _ _ _ _ (by omega) p1 p2
              exact key _ (by omega)
            · simp only [if_neg z]
              exact ab_PD_z _ _ (fun _ => rfl)
          unfold ab_asy
          simp only [u0]
          exact ab_PD_md (ab_PD_add _ _ _ e2 (ab_PD_cm (ab_PD_le e1 _ (by omega))))
        by_cases c3 : ab_LV b - ab_LV c = ab_FIRST b ∧ c = ab_REST b
        · rw [if_pos c3] at o3
          have o4 := of_decide_eq_true o3
          simp only [if_pos c3, u0, u1, u3]
          exact ab_PD_md (ab_PD_add _ _ _ es (ab_PD_le ab_PD_c _ (by omega)))
        · simp only [if_neg c3]
          exact es
theorem ab_PD_AT {L : Int → Int} {b c : Int} (hb : ab_bb b) (hc : ab_bb c) : ab_PD (ab_dgx b c).toNat (fun x => ab_AT (ab_ui L 2 x) (b * 19 + c)) := ab_PD_att 6 b c hb hc (by have := ab_lv_r hb; omega)
theorem ab_PD_ftt {L : Int → Int} : ∀ (k : Nat) (b c : Int), ab_bb b → ab_bb c → ab_LV b = ab_LV c → ab_LV b < k → ab_PD ((ab_LENGTH b).toNat + 1) (fun x => ab_ftt (ab_ui L 2 x) k (b * 19 + c))
  | 0, b, c, hb, hc, hl, h1 => absurd (ab_lv_r hb).1 (by omega)
  | k + 1, b, c, hb, hc, hl, h1 => by
    have e0 : (fun x => ab_ftt (ab_ui L 2 x) (k + 1) (b * 19 + c)) = fun x => ab_fsx (ab_AT (ab_ui L 2 x)) (ab_ftt (ab_ui L 2 x) k) b c := by
      funext x
      obtain ⟨c0, c1⟩ := hc
      rw [ab_ftt]
      show ab_fsx _ _ _ _ = _
      rw [show (b * 19 + c) / 19 = b by omega, show (b * 19 + c) % 19 = c by omega]
    rw [e0]
    unfold ab_fsx
    by_cases c1 : b = 0
    · simp only [if_pos c1]
      exact ab_PD_le ab_PD_c _ (by omega)
    · simp only [if_neg c1]
      obtain ⟨k1, k2, k3, k4, k5, k6⟩ := ab_lv_k hb c1
      have lb := ab_lv_r hb
      have ln := ab_len_rest hb c1
      have lr0 := ab_first_r k5.1 k5.2
      have z : 0 ≤ ab_LV b - ab_FIRST b := by omega
      have hw := ab_wd_eq z (by omega)
      refine ab_PD_md ?_
      have key : ∀ m : Nat, (m : Int) ≤ ab_wd (ab_LV b - ab_FIRST b) → ab_PD ((ab_LENGTH b).toNat + 1) (fun x => ab_fss (ab_AT (ab_ui L 2 x)) (ab_ftt (ab_ui L 2 x) k) c (ab_REST b) (ab_START (ab_LV b - ab_FIRST b)) m) := by
        intro m
        induction m with
        | zero => intro _; exact ab_PD_z _ _ (fun _ => rfl)
        | succ m ih =>
          intro hm
          have hlm := ab_lv_at z (by omega) (i := m) (by omega) (by omega)
          have bm : ab_bb (ab_START (ab_LV b - ab_FIRST b) + m) := ⟨by omega, by omega⟩
          have r1 := ab_dg_r hc bm
          have p1 := ab_PD_AT (L := L) hc bm
          have p2 := ab_PD_ftt (L := L) k (ab_REST b) (ab_START (ab_LV b - ab_FIRST b) + m) k5 bm (by omega) (by omega)
          exact ab_PD_add _ _ _ (ih (by omega)) (ab_PD_mul _ _ _ _ _ (by omega) p1 p2)
      exact key _ (by omega)
theorem ab_deg_sum {l : Int} (h0 : 0 ≤ l) (h1 : l ≤ 5) : ab_se (fun r => (ab_LENGTH (ab_START l + r)).toNat) (ab_wd l).toNat = (ab_DEGREE l).toNat :=
  ab_tb_all (P := fun l => ab_se (fun r => (ab_LENGTH (ab_START l + r)).toNat) (ab_wd l).toNat = (ab_DEGREE l).toNat) (m := 6) (by decide +kernel) h0 (by omega)
theorem ab_pol_all {L : Int → Int} : ab_pol L := by
  intro l l0 l5
  have hw := ab_wd_eq l0 (by omega)
  have ec : (((ab_wd l).toNat : Nat) : Int) = ab_wd l := Int.toNat_of_nonneg (by omega)
  refine ab_PD_dl _ _ ?_
  rw [← ab_deg_sum l0 l5]
  refine ab_PD_m _ (fun x => ab_dd (ab_wd l).toNat (fun r c => (fun r c x => ab_fm (ab_ui L 2 x) l r c) r c x)) _ (fun x => ?_) (ab_PD_dd (ab_wd l).toNat (fun r c x => ab_fm (ab_ui L 2 x) l r c) (fun r => (ab_LENGTH (ab_START l + r)).toNat) fun r c r0 r1 c0 c1 => ?_)
  · have := ab_rd_dt (R := ab_wd l) (M := ab_fm (ab_ui L 2 x) l) (g := fun _ => 0) ⟨by omega, by omega⟩ (fun r c _ _ _ _ => ab_FT_r _)
    exact this.symm
  · have q1 := ab_lv_at l0 l5 (i := r) r0 (by omega)
    have q2 := ab_lv_at l0 l5 (i := c) c0 (by omega)
    exact ab_PD_ftt 6 (ab_START l + r) (ab_START l + c) ⟨by omega, by omega⟩ ⟨by omega, by omega⟩ (by omega) (by omega)
