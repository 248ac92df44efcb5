/-! ===== the calls: paper, lists, image ===== -/
theorem ab_aps_eq {mm : Nat} : ∀ (l : List Int) (z : (Int → Int) × Int), 0 ≤ z.2 → z.2 + l.length ≤ mm → (ab_aps mm z l).2 = z.2 + l.length ∧ (∀ j : Nat, j < l.length → (ab_aps mm z l).1 (z.2 + j) = l.getD j 0) ∧ ∀ j : Int, j < z.2 → (ab_aps mm z l).1 j = z.1 j
  | [], z, _, _ => ⟨by show z.2 = z.2 + ((0 : Nat) : Int); omega, fun j hj => absurd hj (by simp), fun j _ => rfl⟩
  | x :: l, z, h0, h1 => by
    rw [List.length_cons] at h1
    have e : ab_ap mm z x = (ab_ui z.1 z.2 x, z.2 + 1) := if_pos (by omega)
    have ih := ab_aps_eq l (ab_ap mm z x) (by rw [e]; show 0 ≤ z.2 + 1; omega) (by rw [e]; show z.2 + 1 + (l.length : Int) ≤ mm; omega)
    have e2 : ab_aps mm z (x :: l) = ab_aps mm (ab_ap mm z x) l := rfl
    rw [e2]
    rw [e] at ih ⊢
    obtain ⟨i1, i2, i3⟩ := ih
    refine ⟨?_, fun j hj => ?_, fun j hj => ?_⟩
    · rw [i1, List.length_cons]
      show z.2 + 1 + (l.length : Int) = _
      omega
    · cases j with
      | zero =>
        have := i3 z.2 (by show z.2 < z.2 + 1; omega)
        rw [show z.2 + ((0 : Nat) : Int) = z.2 by omega, this]
        show ab_ui z.1 z.2 x z.2 = x
        exact ab_ui_at
      | succ j =>
        have := i2 j (by rw [List.length_cons] at hj; omega)
        rw [show z.2 + ((j + 1 : Nat) : Int) = z.2 + 1 + (j : Int) by omega]
        exact this
    · rw [i3 j (by show j < z.2 + 1; omega)]
      exact ab_ui_ne (by omega)
/-- every byte that is written -/
def ab_byt (l : List Int) : Prop := ∀ x, x ∈ l → 0 ≤ x ∧ x ≤ 127
theorem ab_byt_app {l r : List Int} (h1 : ab_byt l) (h2 : ab_byt r) : ab_byt (l ++ r) := fun x hx => (List.mem_append.mp hx).elim (h1 x) (h2 x)
theorem ab_byt_nil : ab_byt [] := fun x hx => absurd hx (by simp)
theorem ab_byt_cons {x : Int} {l : List Int} (h1 : 0 ≤ x ∧ x ≤ 127) (h2 : ab_byt l) : ab_byt (x :: l) := fun y hy => (List.mem_cons.mp hy).elim (fun e => by rw [e]; exact h1) (h2 y)
theorem ab_digs_ok {v : Int} (hv : 0 ≤ v ∧ v ≤ 100) : ab_byt (ab_digs v) ∧ (ab_digs v).length ≤ 3 :=
  ab_tb_all (P := fun v => ab_byt (ab_digs v) ∧ (ab_digs v).length ≤ 3) (m := 101) (by
    unfold ab_byt
    decide +kernel) hv.1 (by omega)
theorem ab_pts_ok {bs : Int} (hb : ab_bb bs) : ab_byt (ab_pts bs (ab_LENGTH bs).toNat) :=
  ab_tb_all (P := fun bs => ab_byt (ab_pts bs (ab_LENGTH bs).toNat)) (m := 19) (by
    unfold ab_byt
    decide +kernel) hb.1 hb.2
theorem ab_trm_ok {sz v bs : Int} (hv : 0 ≤ v ∧ v ≤ 100) (hb : ab_bb bs) : ab_byt (ab_trm sz v bs) ∧ (ab_trm sz v bs).length ≤ (if 0 < sz then 1 else 0) + (5 + (ab_pts bs (ab_LENGTH bs).toNat).length) ∧ ab_trm sz v bs ≠ [] := by
  have d := ab_digs_ok hv
  have p := ab_pts_ok hb
  unfold ab_trm
  refine ⟨ab_byt_app ?_ (ab_byt_app ?_ (ab_byt_app (ab_byt_cons (by decide) ab_byt_nil) (ab_byt_app p (ab_byt_cons (by decide) ab_byt_nil)))), ?_, ?_⟩
  · split
    · exact ab_byt_cons (by decide) ab_byt_nil
    · exact ab_byt_nil
  · split
    · exact d.1
    · exact ab_byt_nil
  · simp only [List.length_append, List.length_cons, List.length_nil]
    split <;> split <;> simp only [List.length_cons, List.length_nil] <;> omega
  · intro z
    have := congrArg List.length z
    simp only [List.length_append, List.length_cons, List.length_nil] at this
    omega
def ab_bud (st : Int) : Nat → Nat
  | 0 => 0
  | k + 1 => ab_bud st k + (6 + (ab_pts (st + k) (ab_LENGTH (st + k)).toNat).length)
theorem ab_trms_ok {g : Int → Int} {st : Int} (hst : 0 ≤ st) : ∀ k : Nat, st + k ≤ 19 → (∀ i : Int, 0 ≤ i → i < k → 0 ≤ g i ∧ g i ≤ 100) → ab_byt (ab_trms g st k) ∧ (ab_trms g st k = [] ∨ (ab_trms g st k).length + 1 ≤ ab_bud st k)
  | 0, _, _ => ⟨ab_byt_nil, Or.inl rfl⟩
  | k + 1, hk, hg => by
    have ih := ab_trms_ok (g := g) hst k (by omega) (fun i i0 i1 => hg i i0 (by omega))
    have ht := ab_trm_ok (sz := if ab_trms g st k = [] then 0 else 1) (hg k (by omega) (by omega)) (bs := st + k) ⟨by omega, by omega⟩
    unfold ab_trms ab_bud
    by_cases c : g k = 0
    · rw [if_pos c, List.append_nil]
      refine ⟨ih.1, ih.2.imp id (fun z => by omega)⟩
    · rw [if_neg c]
      refine ⟨ab_byt_app ih.1 ht.1, Or.inr ?_⟩
      rw [List.length_append]
      have hl := ht.2.1
      by_cases ne : ab_trms g st k = []
      · rw [ne] at hl ⊢
        rw [if_pos rfl, if_neg (show ¬ (0 : Int) < 0 by decide)] at hl
        rw [if_pos rfl]
        simp only [List.length_nil] at hl ⊢
        omega
      · have e := ih.2.resolve_left ne
        rw [if_neg ne, if_pos (show (0 : Int) < 1 by decide)] at hl
        rw [if_neg ne]
        omega
theorem ab_trms_94 {g : Int → Int} {lv : Int} (hl : 0 ≤ lv ∧ lv ≤ 5) (hg : ∀ i : Int, 0 ≤ i → i < 7 → 0 ≤ g i ∧ g i ≤ 100) : ab_byt (ab_trms g (ab_START lv) (ab_wd lv).toNat) ∧ (ab_trms g (ab_START lv) (ab_wd lv).toNat).length ≤ 94 := by
  have hw := ab_wd_eq hl.1 (by omega)
  have h := ab_trms_ok (g := g) (st := ab_START lv) (by omega) (ab_wd lv).toNat (by omega) (fun i i0 i1 => hg i i0 (by omega))
  have hb : ab_bud (ab_START lv) (ab_wd lv).toNat ≤ 95 := ab_tb_all (P := fun lv => ab_bud (ab_START lv) (ab_wd lv).toNat ≤ 95) (m := 6) (by decide +kernel) hl.1 (by omega)
  refine ⟨h.1, ?_⟩
  rcases h.2 with e | e
  · rw [e]; decide
  · omega
theorem ab_trms_cg {f g : Int → Int} {st : Int} : ∀ k : Nat, (∀ i : Int, 0 ≤ i → i < k → f i = g i) → ab_trms f st k = ab_trms g st k
  | 0, _ => rfl
  | k + 1, h => by
    have ih := ab_trms_cg (st := st) k (fun i i0 i1 => h i i0 (by omega))
    unfold ab_trms
    rw [ih, h k (by omega) (by omega)]
def ab_txw (X : ab_X) (v : Int) : List Int := ab_trms (ab_cv X v) (ab_START (X 1 v)) (ab_wd (X 1 v)).toNat
def ab_s_write (X : ab_X) (v : Int) : Int := if ab_isV v then ((ab_txw X v).length : Int) else -1
def ab_n_write (X : ab_X) (v : Int) : ab_X := if ab_isV v then ab_up (ab_up X 7 (fun j => (ab_txw X v).getD j.toNat 0)) 5 (ab_ui (X 5) 2 ((ab_txw X v).length : Int)) else X
def ab_s_paper (X : ab_X) (i : Int) : Int := if 0 ≤ i ∧ i ≤ X 5 2 - 1 then X 7 i else -1
def ab_jd (P : Int → Bool) (i : Int) : Nat → Int
  | 0 => -5
  | k + 1 => if P i = true then ab_jd P (i + 1) k else i
abbrev ab_isL (l : Int) : Prop := 0 ≤ l ∧ l ≤ 3
def ab_s_judge (X : ab_X) (Y : Int → Int64) (l v : Int) : Int := if ab_isL l ∧ ab_isV v then (if X 8 l < 0 then -11 else ab_jd (fun i => decide (Y (12 * l + i) = Int64.ofInt (if i < 7 then X 2 (7 * v + i) else 0))) 0 (X 8 l).toNat) else -1
def ab_s_list (l k : Int) : Int := if ab_isL l then (if 12 < k then -2 else if k < 0 then -14 else 1) else -1
def ab_n_list (X : ab_X) (l k : Int) : ab_X := if ab_isL l ∧ 0 ≤ k ∧ k ≤ 12 then ab_up X 8 (ab_ui (X 8) l k) else X
def ab_y_list (Y : Int → Int64) (l k : Int) : Int → Int64 := if ab_isL l ∧ 0 ≤ k ∧ k ≤ 12 then (fun j => if 12 * l ≤ j ∧ j < 12 * l + k then 0 else Y j) else Y
def ab_s_lay (X : ab_X) (l i : Int) : Int := if ab_isL l then (if X 8 l < 0 then -11 else if 0 ≤ i ∧ i ≤ X 8 l - 1 then 1 else -13) else -1
def ab_y_lay (X : ab_X) (Y : Int → Int64) (l i : Int) (x : Int64) : Int → Int64 := if ab_isL l ∧ 0 ≤ i ∧ i ≤ X 8 l - 1 then ab_ui Y (12 * l + i) x else Y
def ab_s_get (X : ab_X) (Y : Int → Int64) (l i : Int) : Int64 := if ab_isL l ∧ 0 ≤ i ∧ i ≤ X 8 l - 1 then Y (12 * l + i) else -9223372036854775808
def ab_n_image (X : ab_X) : ab_X := fun i => if i = 10 then X 0 else if i = 11 then X 1 else if i = 12 then X 2 else if i = 13 then X 3 else if i = 14 then X 4 else if i = 15 then ab_ui (X 15) 0 (X 5 0) else if i = 5 then ab_ui (X 5) 3 1 else X i
def ab_n_undo (X : ab_X) : ab_X := if X 5 3 = 0 then X else fun i => if i = 0 then X 10 else if i = 1 then X 11 else if i = 2 then X 12 else if i = 3 then X 13 else if i = 4 then X 14 else if i = 5 then ab_ui (X 5) 0 (X 15 0) else X i
def ab_s_undo (X : ab_X) : Int := if X 5 3 = 0 then -3 else X 10 0
def ab_s_count (X : ab_X) (w : Int) : Int := if w = 0 then ab_fn (ab_cv X) 4 else if w = 1 then X 5 1 else if w = 2 then X 5 2 else if w = 3 then X 5 0 else -2
theorem ab_fn_cg {f g : Int → Int → Int} : ∀ k : Nat, (∀ v i : Int, 0 ≤ v → v < k → 0 ≤ i → i < 7 → f v i = g v i) → ab_fn f k = ab_fn g k
  | 0, _ => rfl
  | k + 1, h => by
    have ih := ab_fn_cg (f := f) (g := g) k (fun v i v0 v1 => h v i v0 (by omega))
    unfold ab_fn
    rw [ih, ab_nz_cg 7 (fun i i0 i7 => h k i (by omega) (by omega) i0 i7)]
section JG
variable {h : ab_H} {n : Nat} {Q : ab_Q} {X : ab_X} {Y : Int → Int64}
theorem xc_write {v : Int} (hs : ab_stat h) (J : ab_JC X Y h) (I : ab_XI X) (hv : ab_inR v) (q : ∀ h', ab_eqo 6 67 h h' → ab_JC (ab_n_write X v) Y h' → Q (some (vi (ab_s_write X v))) h' n) : ab_G 93 0 [some (vr 6), some (vi v)] [] h n (0, 0) Q := by
  have J' := J
  obtain ⟨j1, j2, j3, j4, j5, j6, j7, j8, j9⟩ := J'
  obtain ⟨l, hvv, f, ws, bs, ⟨k1, k2, k3, k4, k5, k6⟩, k7, k8, k9, k10, k11⟩ := ab_now_o j2
  have hl := ab_lok_cg k7 I.1.1
  unfold ab_s_write ab_n_write at q
  by_cases c1 : ab_isV v
  · have va := ab_va_r (s := 7) (v := v) (by omega)
    have a6 : 6 ≤ ab_va 7 v := by omega
    obtain ⟨v1, v2⟩ := k4 v c1.1 (by omega)
    have v4 : v < ((4 : Nat) : Int) := by omega
    have v0 : 0 ≤ v := c1.1
    have v04 : 0 ≤ v ∧ v < 4 := ⟨v0, by omega⟩
    have hh := I.1.2.1 v v0 (by omega)
    have hx := k8 v v0 (by omega)
    have hf : ∀ i, 0 ≤ i → i < 7 → 0 ≤ f v i ∧ f v i ≤ 100 := fun i i0 i7 => by rw [k9 v i v0 (by omega) i0 i7]; exact I.1.2.2.1 _ (by omega) (by omega)
    rw [if_pos c1, if_pos c1] at q
    obtain ⟨p, nu, mc, b0, gm, t1, t2, t3, t4⟩ := j7
    have et : ab_trms (f v) (ab_START (hvv v)) (ab_wd (hvv v)).toNat = ab_txw X v := by
      have hw := ab_wd_eq (lv := hvv v) (by omega) (by omega)
      unfold ab_txw
      rw [hx, ab_trms_cg (g := ab_cv X v) _ (fun i i0 i1 => k9 v i v0 (by omega) i0 (by rw [hx] at hw; omega))]
    have h94 := ab_trms_94 (g := f v) (lv := hvv v) (by omega) hf
    have ev := ab_aps_eq (mm := 94) (ab_txw X v) (b0, 0) (Int.le_refl 0) (by show (0 : Int) + _ ≤ _; rw [← et]; omega)
    have pg0 : ab_hs h 55 (ab_txt 57 0 p nu 56 mc) = ab_pg h 55 57 94 p nu 56 mc (b0, 0) := by
      unfold ab_pg
      rw [ab_hs_id (a := 57) t3]
    have o : ∀ z a, a ≠ 55 → a ≠ 57 → ab_pg h 55 57 94 p nu 56 mc z a = h a := fun z a h1 h2 => ab_pg_ne h1 h2
    simp (disch := omega) only [s93_0, s93_1, s93_4, s93_7, s93_8, s93_9, s93_10, s93_13, true_and, and_true, true_implies, Option.toList_some, Option.toList_none, List.nil_append, List.cons_append, List.map_nil, List.map_cons, List.sum_nil, List.sum_cons, Nat.zero_le, ab_nl_n, ab_nl_i, ab_nl_r, ab_nl_0, ab_cat_i, ab_cat_r, ab_cat_l, Nat.reduceAdd, Nat.reduceLeDiff, Nat.add_zero, Nat.zero_add, reduceIte, List.getElem?_cons_succ, List.getElem?_cons_zero, List.length_cons, List.length_nil, List.set_cons_zero, List.set_cons_succ, true_or, or_true, Classical.not_not, not_true_eq_false, not_false_eq_true, ab_01r, ab_01z, ab_01n, false_implies, ab_tt, Nat.reduceLT, Nat.reduceEqDiff, Int.reduceNeg, Int.reduceLT, Int.reduceLE, Int.add_zero, Int.zero_add, List.append_nil, Int.reduceEq, ab_sum1, ab_ri_0, ab_ri_1, ab_ri_2, ab_ri_3, ab_ri_4, ab_ri_5, ab_ri_6, ab_ri_7, ab_ri_8, ab_ri_12, ab_ri_30, ab_ri_60, ab_ri_100, ab_ri_101, ab_ri_127, ab_ri_m1, ab_ri_m2, ab_ri_m3, ab_ri_m4, ab_ri_m5, ab_ri_m11, ab_ri_m13, ab_ri_m14, ab_ri_10, sp_isVector, ab_01n, ab_01z, c1, ab_fd, ab_vc, ab_sv_11_184, ab_sv_11_238, j1, t1, Nat.reduceLeDiff]
    refine sp_clear (by decide) t1 ?_
    rw [pg0]
    have o6 := fun z => (o z 6 (by decide) (by decide)).trans j1
    have o7 := fun z => (o z 7 (by decide) (by decide)).trans k1
    have o9 := fun z => (o z 9 (by decide) (by decide)).trans k3
    have o55 : ∀ z, ab_pg h 55 57 94 p nu 56 mc z 55 = some (ab_txt 57 z.2 p nu 56 mc) := fun z => ab_pg_a
    simp only [s93_16, s93_17, s93_20, s93_21, s93_24, s93_27, s93_28, s93_29, true_and, and_true, true_implies, Option.toList_some, Option.toList_none, List.nil_append, List.cons_append, List.map_nil, List.map_cons, List.sum_nil, List.sum_cons, Nat.zero_le, ab_nl_n, ab_nl_i, ab_nl_r, ab_nl_0, ab_cat_i, ab_cat_r, ab_cat_l, Nat.reduceAdd, Nat.reduceLeDiff, Nat.add_zero, Nat.zero_add, reduceIte, List.getElem?_cons_succ, List.getElem?_cons_zero, List.length_cons, List.length_nil, List.set_cons_zero, List.set_cons_succ, true_or, or_true, Classical.not_not, not_true_eq_false, not_false_eq_true, ab_01r, ab_01z, ab_01n, false_implies, ab_tt, Nat.reduceLT, Nat.reduceEqDiff, Int.reduceNeg, Int.reduceLT, Int.reduceLE, Int.add_zero, Int.zero_add, List.append_nil, Int.reduceEq, ab_sum1, ab_ri_0, ab_ri_1, ab_ri_2, ab_ri_3, ab_ri_4, ab_ri_5, ab_ri_6, ab_ri_7, ab_ri_8, ab_ri_12, ab_ri_30, ab_ri_60, ab_ri_100, ab_ri_101, ab_ri_127, ab_ri_m1, ab_ri_m2, ab_ri_m3, ab_ri_m4, ab_ri_m5, ab_ri_m11, ab_ri_m13, ab_ri_m14, ab_ri_10, ab_fd, ab_ar, ab_vc, ab_sv_11_184, ab_sv_11_238, o6, o7, o9, o55, v0, v4, v04, Nat.reduceLeDiff]
    refine sp_appendTerms (by decide) (by decide) (by decide) a6 (by omega) (by omega) (by omega) (by omega) (by omega) hs ⟨Int.le_refl 0, by show (0 : Int) ≤ _; omega, by omega⟩ rfl (by decide) v1 v2 (by omega) hf ?_
    rw [et]
    revert ev
    generalize ab_aps 94 (b0, 0) (ab_txw X v) = z
    intro ev
    obtain ⟨ev1, ev2, -⟩ := ev
    have ev1 : z.2 = ((ab_txw X v).length : Int) := by rw [ev1]; show (0 : Int) + _ = _; omega
    have q := q (ab_pg h 55 57 94 p nu 56 mc z) (fun a ha => o z a (by omega) (by omega)) ⟨(o z 6 (by decide) (by decide)).trans j1, ab_now_fr (fun a _ _ => o z a (by omega) (by omega)) j2, ab_kep_fr (fun a _ _ => o z a (by omega) (by omega)) j3, ab_lad_fr (fun a _ _ => o z a (by omega) (by omega)) j4, ab_swp_fr (fun a _ _ => o z a (by omega) (by omega)) j5, ab_tap_fr (fun a _ _ => o z a (by omega) (by omega)) j6, ⟨p, nu, mc, z.1, gm, (by
        show _ = some (ab_txt 57 ((ab_txw X v).length : Int) p nu 56 mc)
        rw [← ev1]
        exact ab_pg_a), (o z 56 (by decide) (by decide)).trans t2, ab_pg_b (by decide), fun i i0 i1 => by
        have i1 : i < ((ab_txw X v).length : Int) := i1
        have := ev2 i.toNat (by omega)
        rw [Int.toNat_of_nonneg i0] at this
        show z.1 i = (ab_txw X v).getD i.toNat 0
        rw [← this]
        show z.1 i = z.1 (0 + i)
        rw [Int.zero_add]⟩, ab_scr_fr (fun a _ _ => o z a (by omega) (by omega)) j8, ab_lis_fr (fun a _ _ => o z a (by omega) (by omega)) j9⟩
    rw [← ev1] at q
    simp only [s93_32, s93_33, s93_36, s93_39, true_and, and_true, true_implies, Option.toList_some, Option.toList_none, List.nil_append, List.cons_append, List.map_nil, List.map_cons, List.sum_nil, List.sum_cons, Nat.zero_le, ab_nl_n, ab_nl_i, ab_nl_r, ab_nl_0, ab_cat_i, ab_cat_r, ab_cat_l, Nat.reduceAdd, Nat.reduceLeDiff, Nat.add_zero, Nat.zero_add, reduceIte, List.getElem?_cons_succ, List.getElem?_cons_zero, List.length_cons, List.length_nil, List.set_cons_zero, List.set_cons_succ, true_or, or_true, Classical.not_not, not_true_eq_false, not_false_eq_true, ab_01r, ab_01z, ab_01n, false_implies, ab_tt, Nat.reduceLT, Nat.reduceEqDiff, Int.reduceNeg, Int.reduceLT, Int.reduceLE, Int.add_zero, Int.zero_add, List.append_nil, Int.reduceEq, ab_sum1, ab_ri_0, ab_ri_1, ab_ri_2, ab_ri_3, ab_ri_4, ab_ri_5, ab_ri_6, ab_ri_7, ab_ri_8, ab_ri_12, ab_ri_30, ab_ri_60, ab_ri_100, ab_ri_101, ab_ri_127, ab_ri_m1, ab_ri_m2, ab_ri_m3, ab_ri_m4, ab_ri_m5, ab_ri_m11, ab_ri_m13, ab_ri_m14, ab_ri_10, ab_fd, o6, o55, Nat.reduceLeDiff, q]
  · rw [if_neg c1, if_neg c1] at q
    have q := q h (fun _ _ => rfl) J
    simp (disch := omega) only [s93_0, s93_1, s93_4, s93_7, s93_8, true_and, and_true, true_implies, Option.toList_some, Option.toList_none, List.nil_append, List.cons_append, List.map_nil, List.map_cons, List.sum_nil, List.sum_cons, Nat.zero_le, ab_nl_n, ab_nl_i, ab_nl_r, ab_nl_0, ab_cat_i, ab_cat_r, ab_cat_l, Nat.reduceAdd, Nat.reduceLeDiff, Nat.add_zero, Nat.zero_add, reduceIte, List.getElem?_cons_succ, List.getElem?_cons_zero, List.length_cons, List.length_nil, List.set_cons_zero, List.set_cons_succ, true_or, or_true, Classical.not_not, not_true_eq_false, not_false_eq_true, ab_01r, ab_01z, ab_01n, false_implies, ab_tt, Nat.reduceLT, Nat.reduceEqDiff, Int.reduceNeg, Int.reduceLT, Int.reduceLE, Int.add_zero, Int.zero_add, List.append_nil, Int.reduceEq, ab_sum1, ab_ri_0, ab_ri_1, ab_ri_2, ab_ri_3, ab_ri_4, ab_ri_5, ab_ri_6, ab_ri_7, ab_ri_8, ab_ri_12, ab_ri_30, ab_ri_60, ab_ri_100, ab_ri_101, ab_ri_127, ab_ri_m1, ab_ri_m2, ab_ri_m3, ab_ri_m4, ab_ri_m5, ab_ri_m11, ab_ri_m13, ab_ri_m14, ab_ri_10, sp_isVector, ab_01n, ab_01z, c1, q]
theorem xc_paper {i : Int} (J : ab_JC X Y h) (I : ab_XI X) (hi : ab_inR i) (q : Q (some (vi (ab_s_paper X i))) h n) : ab_G 94 0 [some (vr 6), some (vi i)] [] h n (0, 0) Q := by
  have J' := J
  obtain ⟨j1, j2, j3, j4, j5, j6, j7, j8, j9⟩ := J'
  obtain ⟨l, hvv, f, ws, bs, ⟨k1, k2, k3, k4, k5, k6⟩, k7, k8, k9, k10, k11⟩ := ab_now_o j2
  have hl := ab_lok_cg k7 I.1.1
  obtain ⟨p, nu, mc, b0, gm, t1, t2, t3, t4⟩ := j7
  have I2 := I.2.2.2.1
  unfold ab_s_paper at q
  by_cases c1 : 0 ≤ i ∧ i ≤ X 5 2 - 1
  · rw [if_pos c1, ← t4 i c1.1 (by omega)] at q
    have i0 := c1.1
    have i94 : i < ((94 : Nat) : Int) := by omega
    simp (disch := omega) only [s94_0, s94_1, s94_2, s94_5, s94_8, s94_9, s94_10, s94_13, s94_16, s94_17, s94_20, s94_23, true_and, and_true, true_implies, Option.toList_some, Option.toList_none, List.nil_append, List.cons_append, List.map_nil, List.map_cons, List.sum_nil, List.sum_cons, Nat.zero_le, ab_nl_n, ab_nl_i, ab_nl_r, ab_nl_0, ab_cat_i, ab_cat_r, ab_cat_l, Nat.reduceAdd, Nat.reduceLeDiff, Nat.add_zero, Nat.zero_add, reduceIte, List.getElem?_cons_succ, List.getElem?_cons_zero, List.length_cons, List.length_nil, List.set_cons_zero, List.set_cons_succ, true_or, or_true, Classical.not_not, not_true_eq_false, not_false_eq_true, ab_01r, ab_01z, ab_01n, false_implies, ab_tt, Nat.reduceLT, Nat.reduceEqDiff, Int.reduceNeg, Int.reduceLT, Int.reduceLE, Int.add_zero, Int.zero_add, List.append_nil, Int.reduceEq, ab_sum1, ab_ri_0, ab_ri_1, ab_ri_2, ab_ri_3, ab_ri_4, ab_ri_5, ab_ri_6, ab_ri_7, ab_ri_8, ab_ri_12, ab_ri_30, ab_ri_60, ab_ri_100, ab_ri_101, ab_ri_127, ab_ri_m1, ab_ri_m2, ab_ri_m3, ab_ri_m4, ab_ri_m5, ab_ri_m11, ab_ri_m13, ab_ri_m14, ab_ri_10, sp_isWithin, ab_01n, ab_01z, c1, ab_fd, j1, t1, Nat.reduceLeDiff]
    refine s94_24 1 (Or.inl rfl) ⟨by decide, ?_⟩
    simp only [ab_ai, t3, i0, i94, true_and, and_true, true_implies, Option.toList_some, Option.toList_none, List.nil_append, List.cons_append, List.map_nil, List.map_cons, List.sum_nil, List.sum_cons, Nat.zero_le, ab_nl_n, ab_nl_i, ab_nl_r, ab_nl_0, ab_cat_i, ab_cat_r, ab_cat_l, Nat.reduceAdd, Nat.reduceLeDiff, Nat.add_zero, Nat.zero_add, reduceIte, List.getElem?_cons_succ, List.getElem?_cons_zero, List.length_cons, List.length_nil, List.set_cons_zero, List.set_cons_succ, true_or, or_true, Classical.not_not, not_true_eq_false, not_false_eq_true, ab_01r, ab_01z, ab_01n, false_implies, ab_tt, Nat.reduceLT, Nat.reduceEqDiff, Int.reduceNeg, Int.reduceLT, Int.reduceLE, Int.add_zero, Int.zero_add, List.append_nil, Int.reduceEq, ab_sum1, ab_ri_0, ab_ri_1, ab_ri_2, ab_ri_3, ab_ri_4, ab_ri_5, ab_ri_6, ab_ri_7, ab_ri_8, ab_ri_12, ab_ri_30, ab_ri_60, ab_ri_100, ab_ri_101, ab_ri_127, ab_ri_m1, ab_ri_m2, ab_ri_m3, ab_ri_m4, ab_ri_m5, ab_ri_m11, ab_ri_m13, ab_ri_m14, ab_ri_10, s94_25, s94_28, s94_29, q]
  · rw [if_neg c1] at q
    simp (disch := omega) only [s94_0, s94_1, s94_2, s94_5, s94_8, s94_9, s94_10, s94_13, s94_16, s94_17, s94_20, s94_23, s94_25, s94_28, s94_29, true_and, and_true, true_implies, Option.toList_some, Option.toList_none, List.nil_append, List.cons_append, List.map_nil, List.map_cons, List.sum_nil, List.sum_cons, Nat.zero_le, ab_nl_n, ab_nl_i, ab_nl_r, ab_nl_0, ab_cat_i, ab_cat_r, ab_cat_l, Nat.reduceAdd, Nat.reduceLeDiff, Nat.add_zero, Nat.zero_add, reduceIte, List.getElem?_cons_succ, List.getElem?_cons_zero, List.length_cons, List.length_nil, List.set_cons_zero, List.set_cons_succ, true_or, or_true, Classical.not_not, not_true_eq_false, not_false_eq_true, ab_01r, ab_01z, ab_01n, false_implies, ab_tt, Nat.reduceLT, Nat.reduceEqDiff, Int.reduceNeg, Int.reduceLT, Int.reduceLE, Int.add_zero, Int.zero_add, List.append_nil, Int.reduceEq, ab_sum1, ab_ri_0, ab_ri_1, ab_ri_2, ab_ri_3, ab_ri_4, ab_ri_5, ab_ri_6, ab_ri_7, ab_ri_8, ab_ri_12, ab_ri_30, ab_ri_60, ab_ri_100, ab_ri_101, ab_ri_127, ab_ri_m1, ab_ri_m2, ab_ri_m3, ab_ri_m4, ab_ri_m5, ab_ri_m11, ab_ri_m13, ab_ri_m14, ab_ri_10, sp_isWithin, ab_01n, ab_01z, c1, ab_fd, j1, t1, Nat.reduceLeDiff, q]
theorem xc_judge {l v : Int} (J : ab_JC X Y h) (I : ab_XI X) (hl : ab_inR l) (hv : ab_inR v) (q : Q (some (vi (ab_s_judge X Y l v))) h n) : ab_G 95 0 [some (vr 6), some (vi l), some (vi v), none, none] [] h n (0, 0) Q := by
  have J' := J
  obtain ⟨j1, j2, j3, j4, j5, j6, j7, j8, j9⟩ := J'
  obtain ⟨ll, hvv, f, ws, bs, ⟨k1, k2, k3, k4, k5, k6⟩, k7, k8, k9, k10, k11⟩ := ab_now_o j2
  obtain ⟨sz, c, m1, m2, m3, m4, m5⟩ := j9
  unfold ab_s_judge at q
  by_cases c1 : ab_isL l
  · by_cases c2 : ab_isV v
    · rw [if_pos ⟨c1, c2⟩] at q
      have va := ab_va_r (s := 7) (v := v) (by omega)
      have a6 : 6 ≤ ab_va 7 v := by omega
      obtain ⟨v1, v2⟩ := k4 v c2.1 (by omega)
      have v4 : v < ((4 : Nat) : Int) := by omega
      have v0 : 0 ≤ v := c2.1
      have v04 : 0 ≤ v ∧ v < 4 := ⟨v0, by omega⟩
      have hh := I.1.2.1 v v0 (by omega)
      have hx := k8 v v0 (by omega)
      have hf : ∀ i, 0 ≤ i → i < 7 → 0 ≤ f v i ∧ f v i ≤ 100 := fun i i0 i7 => by rw [k9 v i v0 (by omega) i0 i7]; exact I.1.2.2.1 _ (by omega) (by omega)
      have l0 := c1.1
      have l4 : l < ((4 : Nat) : Int) := by omega
      have l04 : 0 ≤ l ∧ l < 4 := by omega
      have el := m4 l l0 (by omega)
      have I8 := I.2.2.2.2.2.2.1 l l0 (by omega)
      have hszr : ab_inR (X 8 l) = True := eq_true (by omega)
      have b6 : 6 ≤ ab_vb 7 v := by omega
      have l6 : 6 ≤ 63 + l.toNat := by omega
      by_cases c3 : X 8 l < 0
      · rw [if_pos c3] at q
        have c3n : ¬ 0 ≤ X 8 l := by omega
        simp (disch := omega) only [s95_0, s95_1, s95_2, s95_5, s95_8, s95_9, s95_12, s95_15, s95_16, s95_17, s95_18, s95_21, s95_22, s95_23, s95_26, s95_28, true_and, and_true, true_implies, Option.toList_some, Option.toList_none, List.nil_append, List.cons_append, List.map_nil, List.map_cons, List.sum_nil, List.sum_cons, Nat.zero_le, ab_nl_n, ab_nl_i, ab_nl_r, ab_nl_0, ab_cat_i, ab_cat_r, ab_cat_l, Nat.reduceAdd, Nat.reduceLeDiff, Nat.add_zero, Nat.zero_add, reduceIte, List.getElem?_cons_succ, List.getElem?_cons_zero, List.length_cons, List.length_nil, List.set_cons_zero, List.set_cons_succ, true_or, or_true, Classical.not_not, not_true_eq_false, not_false_eq_true, ab_01r, ab_01z, ab_01n, false_implies, ab_tt, Nat.reduceLT, Nat.reduceEqDiff, Int.reduceNeg, Int.reduceLT, Int.reduceLE, Int.add_zero, Int.zero_add, List.append_nil, Int.reduceEq, ab_sum1, ab_ri_0, ab_ri_1, ab_ri_2, ab_ri_3, ab_ri_4, ab_ri_5, ab_ri_6, ab_ri_7, ab_ri_8, ab_ri_12, ab_ri_30, ab_ri_60, ab_ri_100, ab_ri_101, ab_ri_127, ab_ri_m1, ab_ri_m2, ab_ri_m3, ab_ri_m4, ab_ri_m5, ab_ri_m11, ab_ri_m13, ab_ri_m14, ab_ri_10, sp_isWithin, sp_isVector, ab_01n, ab_01z, c1, c2, ab_fd, ab_ai, j1, m3, el, l0, l4, c3, c3n, hszr, Nat.reduceLeDiff, q]
      · rw [if_neg c3] at q
        have c3n : 0 ≤ X 8 l := by omega
        simp (disch := omega) only [s95_0, s95_1, s95_2, s95_5, s95_8, s95_9, s95_12, s95_15, s95_16, s95_17, s95_18, s95_21, s95_22, s95_23, s95_26, s95_28, s95_29, s95_30, s95_33, s95_36, s95_37, s95_38, s95_41, s95_42, s95_43, true_and, and_true, true_implies, Option.toList_some, Option.toList_none, List.nil_append, List.cons_append, List.map_nil, List.map_cons, List.sum_nil, List.sum_cons, Nat.zero_le, ab_nl_n, ab_nl_i, ab_nl_r, ab_nl_0, ab_cat_i, ab_cat_r, ab_cat_l, Nat.reduceAdd, Nat.reduceLeDiff, Nat.add_zero, Nat.zero_add, reduceIte, List.getElem?_cons_succ, List.getElem?_cons_zero, List.length_cons, List.length_nil, List.set_cons_zero, List.set_cons_succ, true_or, or_true, Classical.not_not, not_true_eq_false, not_false_eq_true, ab_01r, ab_01z, ab_01n, false_implies, ab_tt, Nat.reduceLT, Nat.reduceEqDiff, Int.reduceNeg, Int.reduceLT, Int.reduceLE, Int.add_zero, Int.zero_add, List.append_nil, Int.reduceEq, ab_sum1, ab_ri_0, ab_ri_1, ab_ri_2, ab_ri_3, ab_ri_4, ab_ri_5, ab_ri_6, ab_ri_7, ab_ri_8, ab_ri_12, ab_ri_30, ab_ri_60, ab_ri_100, ab_ri_101, ab_ri_127, ab_ri_m1, ab_ri_m2, ab_ri_m3, ab_ri_m4, ab_ri_m5, ab_ri_m11, ab_ri_m13, ab_ri_m14, ab_ri_10, sp_isWithin, sp_isVector, ab_01n, ab_01z, c1, c2, ab_fd, ab_ai, ab_ar, j1, k1, k3, m3, el, l0, l4, c3, c3n, hszr, v0, v4, v04, a6, v1, Nat.reduceLeDiff]
        have key := ab_dn (P := fun i => Q (some (vi (ab_jd (fun i => decide (Y (12 * l + i) = Int64.ofInt (if i < 7 then X 2 (7 * v + i) else 0))) i (X 8 l - i).toNat))) h n → ab_G 95 45 [some (vr 6), some (vi l), some (vi v), some (vr (ab_vb 7 v)), some (vi i)] [] h n (0, 0) Q) (a := 0) (e := X 8 l) c3n ?_ ?_
        · exact key (by rw [Int.sub_zero]; exact q)
        · intro q
          rw [Int.sub_self, show (0 : Int).toNat = 0 from rfl, ab_jd] at q
          rw [s95_45]
          simp only [s95_47, s95_48, s95_51, s95_52, s95_53, s95_94, s95_96, true_and, and_true, true_implies, Option.toList_some, Option.toList_none, List.nil_append, List.cons_append, List.map_nil, List.map_cons, List.sum_nil, List.sum_cons, Nat.zero_le, ab_nl_n, ab_nl_i, ab_nl_r, ab_nl_0, ab_cat_i, ab_cat_r, ab_cat_l, Nat.reduceAdd, Nat.reduceLeDiff, Nat.add_zero, Nat.zero_add, reduceIte, List.getElem?_cons_succ, List.getElem?_cons_zero, List.length_cons, List.length_nil, List.set_cons_zero, List.set_cons_succ, true_or, or_true, Classical.not_not, not_true_eq_false, not_false_eq_true, ab_01r, ab_01z, ab_01n, false_implies, ab_tt, Nat.reduceLT, Nat.reduceEqDiff, Int.reduceNeg, Int.reduceLT, Int.reduceLE, Int.add_zero, Int.zero_add, List.append_nil, Int.reduceEq, ab_sum1, ab_ri_0, ab_ri_1, ab_ri_2, ab_ri_3, ab_ri_4, ab_ri_5, ab_ri_6, ab_ri_7, ab_ri_8, ab_ri_12, ab_ri_30, ab_ri_60, ab_ri_100, ab_ri_101, ab_ri_127, ab_ri_m1, ab_ri_m2, ab_ri_m3, ab_ri_m4, ab_ri_m5, ab_ri_m11, ab_ri_m13, ab_ri_m14, ab_ri_10, ab_fd, ab_ai, j1, m3, el, l0, l4, hszr, Int.le_refl, Nat.reduceLeDiff, q]
        · intro i i0 i9 ih q
          rw [show (X 8 l - i).toNat = (X 8 l - (i + 1)).toNat + 1 by omega, ab_jd] at q
          have c4 : ¬ X 8 l ≤ i := by omega
          have hir : ab_inR i = True := eq_true (by omega)
          have i12 : i < ((12 : Nat) : Int) := by omega
          have ml := m2 l l0 (by omega)
          have mi := m5 l i l0 (by omega) i0 (by omega)
          have b7 : ∀ x : Int, x = (if i < 7 then X 2 (7 * v + i) else 0) → ab_inR x → ab_G 95 80 [some (vr 6), some (vi l), some (vi v), some (vr (ab_vb 7 v)), some (vi i)] [vi x, vl (Y (12 * l + i))] h n (0, 0) Q := by
            intro x hx hxr
            rw [← hx] at q
            by_cases c5 : Y (12 * l + i) = Int64.ofInt x
            · rw [if_pos (decide_eq_true c5)] at q
              have ih := ih q
              simp only [s95_80, s95_81, true_and, and_true, true_implies, Option.toList_some, Option.toList_none, List.nil_append, List.cons_append, List.map_nil, List.map_cons, List.sum_nil, List.sum_cons, Nat.zero_le, ab_nl_n, ab_nl_i, ab_nl_r, ab_nl_0, ab_cat_i, ab_cat_r, ab_cat_l, Nat.reduceAdd, Nat.reduceLeDiff, Nat.add_zero, Nat.zero_add, reduceIte, List.getElem?_cons_succ, List.getElem?_cons_zero, List.length_cons, List.length_nil, List.set_cons_zero, List.set_cons_succ, true_or, or_true, Classical.not_not, not_true_eq_false, not_false_eq_true, ab_01r, ab_01z, ab_01n, false_implies, ab_tt, Nat.reduceLT, Nat.reduceEqDiff, Int.reduceNeg, Int.reduceLT, Int.reduceLE, Int.add_zero, Int.zero_add, List.append_nil, Int.reduceEq, ab_sum1, ab_ri_0, ab_ri_1, ab_ri_2, ab_ri_3, ab_ri_4, ab_ri_5, ab_ri_6, ab_ri_7, ab_ri_8, ab_ri_12, ab_ri_30, ab_ri_60, ab_ri_100, ab_ri_101, ab_ri_127, ab_ri_m1, ab_ri_m2, ab_ri_m3, ab_ri_m4, ab_ri_m5, ab_ri_m11, ab_ri_m13, ab_ri_m14, ab_ri_10, eq_true hxr]
              intro z zr hz
              have z0 := hz.mpr c5
              simp only [s95_82, s95_85, s95_87, s95_88, s95_91, true_and, and_true, true_implies, Option.toList_some, Option.toList_none, List.nil_append, List.cons_append, List.map_nil, List.map_cons, List.sum_nil, List.sum_cons, Nat.zero_le, ab_nl_n, ab_nl_i, ab_nl_r, ab_nl_0, ab_cat_i, ab_cat_r, ab_cat_l, Nat.reduceAdd, Nat.reduceLeDiff, Nat.add_zero, Nat.zero_add, reduceIte, List.getElem?_cons_succ, List.getElem?_cons_zero, List.length_cons, List.length_nil, List.set_cons_zero, List.set_cons_succ, true_or, or_true, Classical.not_not, not_true_eq_false, not_false_eq_true, ab_01r, ab_01z, ab_01n, false_implies, ab_tt, Nat.reduceLT, Nat.reduceEqDiff, Int.reduceNeg, Int.reduceLT, Int.reduceLE, Int.add_zero, Int.zero_add, List.append_nil, Int.reduceEq, ab_sum1, ab_ri_0, ab_ri_1, ab_ri_2, ab_ri_3, ab_ri_4, ab_ri_5, ab_ri_6, ab_ri_7, ab_ri_8, ab_ri_12, ab_ri_30, ab_ri_60, ab_ri_100, ab_ri_101, ab_ri_127, ab_ri_m1, ab_ri_m2, ab_ri_m3, ab_ri_m4, ab_ri_m5, ab_ri_m11, ab_ri_m13, ab_ri_m14, ab_ri_10, z0, ih]
            · rw [if_neg (fun z => c5 (of_decide_eq_true z))] at q
              simp only [s95_80, s95_81, true_and, and_true, true_implies, Option.toList_some, Option.toList_none, List.nil_append, List.cons_append, List.map_nil, List.map_cons, List.sum_nil, List.sum_cons, Nat.zero_le, ab_nl_n, ab_nl_i, ab_nl_r, ab_nl_0, ab_cat_i, ab_cat_r, ab_cat_l, Nat.reduceAdd, Nat.reduceLeDiff, Nat.add_zero, Nat.zero_add, reduceIte, List.getElem?_cons_succ, List.getElem?_cons_zero, List.length_cons, List.length_nil, List.set_cons_zero, List.set_cons_succ, true_or, or_true, Classical.not_not, not_true_eq_false, not_false_eq_true, ab_01r, ab_01z, ab_01n, false_implies, ab_tt, Nat.reduceLT, Nat.reduceEqDiff, Int.reduceNeg, Int.reduceLT, Int.reduceLE, Int.add_zero, Int.zero_add, List.append_nil, Int.reduceEq, ab_sum1, ab_ri_0, ab_ri_1, ab_ri_2, ab_ri_3, ab_ri_4, ab_ri_5, ab_ri_6, ab_ri_7, ab_ri_8, ab_ri_12, ab_ri_30, ab_ri_60, ab_ri_100, ab_ri_101, ab_ri_127, ab_ri_m1, ab_ri_m2, ab_ri_m3, ab_ri_m4, ab_ri_m5, ab_ri_m11, ab_ri_m13, ab_ri_m14, ab_ri_10, eq_true hxr]
              intro z zr hz
              have z0 : ¬ z = 0 := fun e => c5 (hz.mp e)
              simp only [s95_82, s95_85, s95_87, true_and, and_true, true_implies, Option.toList_some, Option.toList_none, List.nil_append, List.cons_append, List.map_nil, List.map_cons, List.sum_nil, List.sum_cons, Nat.zero_le, ab_nl_n, ab_nl_i, ab_nl_r, ab_nl_0, ab_cat_i, ab_cat_r, ab_cat_l, Nat.reduceAdd, Nat.reduceLeDiff, Nat.add_zero, Nat.zero_add, reduceIte, List.getElem?_cons_succ, List.getElem?_cons_zero, List.length_cons, List.length_nil, List.set_cons_zero, List.set_cons_succ, true_or, or_true, Classical.not_not, not_true_eq_false, not_false_eq_true, ab_01r, ab_01z, ab_01n, false_implies, ab_tt, Nat.reduceLT, Nat.reduceEqDiff, Int.reduceNeg, Int.reduceLT, Int.reduceLE, Int.add_zero, Int.zero_add, List.append_nil, Int.reduceEq, ab_sum1, ab_ri_0, ab_ri_1, ab_ri_2, ab_ri_3, ab_ri_4, ab_ri_5, ab_ri_6, ab_ri_7, ab_ri_8, ab_ri_12, ab_ri_30, ab_ri_60, ab_ri_100, ab_ri_101, ab_ri_127, ab_ri_m1, ab_ri_m2, ab_ri_m3, ab_ri_m4, ab_ri_m5, ab_ri_m11, ab_ri_m13, ab_ri_m14, ab_ri_10, z0, eq_true zr, q]
          rw [s95_45]
          by_cases c6 : i < 7
          · have i7 : i < ((7 : Nat) : Int) := c6
            have c6n : ¬ ((7 : Nat) : Int) ≤ i := by omega
            have ef := k9 v i v0 (by omega) i0 c6
            have hfi := hf i i0 c6
            have t := b7 (X 2 (7 * v + i)) (by rw [if_pos c6]) (by rw [← ef]; omega)
            have h7 : ab_inR ((7 : Nat) : Int) = True := eq_true (by omega)
            simp only [s95_47, s95_48, s95_51, s95_52, s95_53, s95_56, s95_57, s95_60, s95_61, s95_62, s95_64, s95_65, s95_67, s95_68, s95_69, s95_72, s95_73, s95_75, s95_76, true_and, and_true, true_implies, Option.toList_some, Option.toList_none, List.nil_append, List.cons_append, List.map_nil, List.map_cons, List.sum_nil, List.sum_cons, Nat.zero_le, ab_nl_n, ab_nl_i, ab_nl_r, ab_nl_0, ab_cat_i, ab_cat_r, ab_cat_l, Nat.reduceAdd, Nat.reduceLeDiff, Nat.add_zero, Nat.zero_add, reduceIte, List.getElem?_cons_succ, List.getElem?_cons_zero, List.length_cons, List.length_nil, List.set_cons_zero, List.set_cons_succ, true_or, or_true, Classical.not_not, not_true_eq_false, not_false_eq_true, ab_01r, ab_01z, ab_01n, false_implies, ab_tt, Nat.reduceLT, Nat.reduceEqDiff, Int.reduceNeg, Int.reduceLT, Int.reduceLE, Int.add_zero, Int.zero_add, List.append_nil, Int.reduceEq, ab_sum1, ab_ri_0, ab_ri_1, ab_ri_2, ab_ri_3, ab_ri_4, ab_ri_5, ab_ri_6, ab_ri_7, ab_ri_8, ab_ri_12, ab_ri_30, ab_ri_60, ab_ri_100, ab_ri_101, ab_ri_127, ab_ri_m1, ab_ri_m2, ab_ri_m3, ab_ri_m4, ab_ri_m5, ab_ri_m11, ab_ri_m13, ab_ri_m14, ab_ri_10, ab_fd, ab_ai, ab_ar, ab_al8, ab_le, ab_alen, j1, m1, ml, m3, mi, el, v2, ef, l0, l4, l04, l6, b6, i0, i12, i7, c4, c6n, hszr, hir, h7, Nat.reduceLeDiff, t]
          · have c6n : ((7 : Nat) : Int) ≤ i := by omega
            have t := b7 0 (by rw [if_neg c6]) (by omega)
            have h7 : ab_inR ((7 : Nat) : Int) = True := eq_true (by omega)
            simp only [s95_47, s95_48, s95_51, s95_52, s95_53, s95_56, s95_57, s95_60, s95_61, s95_62, s95_64, s95_65, s95_67, s95_68, s95_69, s95_79, true_and, and_true, true_implies, Option.toList_some, Option.toList_none, List.nil_append, List.cons_append, List.map_nil, List.map_cons, List.sum_nil, List.sum_cons, Nat.zero_le, ab_nl_n, ab_nl_i, ab_nl_r, ab_nl_0, ab_cat_i, ab_cat_r, ab_cat_l, Nat.reduceAdd, Nat.reduceLeDiff, Nat.add_zero, Nat.zero_add, reduceIte, List.getElem?_cons_succ, List.getElem?_cons_zero, List.length_cons, List.length_nil, List.set_cons_zero, List.set_cons_succ, true_or, or_true, Classical.not_not, not_true_eq_false, not_false_eq_true, ab_01r, ab_01z, ab_01n, false_implies, ab_tt, Nat.reduceLT, Nat.reduceEqDiff, Int.reduceNeg, Int.reduceLT, Int.reduceLE, Int.add_zero, Int.zero_add, List.append_nil, Int.reduceEq, ab_sum1, ab_ri_0, ab_ri_1, ab_ri_2, ab_ri_3, ab_ri_4, ab_ri_5, ab_ri_6, ab_ri_7, ab_ri_8, ab_ri_12, ab_ri_30, ab_ri_60, ab_ri_100, ab_ri_101, ab_ri_127, ab_ri_m1, ab_ri_m2, ab_ri_m3, ab_ri_m4, ab_ri_m5, ab_ri_m11, ab_ri_m13, ab_ri_m14, ab_ri_10, ab_fd, ab_ai, ab_ar, ab_al8, ab_le, ab_alen, j1, m1, ml, m3, mi, el, v2, l0, l4, l04, l6, b6, i0, i12, c4, c6n, hszr, hir, h7, Nat.reduceLeDiff, t]
    · rw [if_neg (fun z => c2 z.2)] at q
      simp (disch := omega) only [s95_0, s95_1, s95_2, s95_5, s95_8, s95_9, s95_12, s95_15, s95_16, true_and, and_true, true_implies, Option.toList_some, Option.toList_none, List.nil_append, List.cons_append, List.map_nil, List.map_cons, List.sum_nil, List.sum_cons, Nat.zero_le, ab_nl_n, ab_nl_i, ab_nl_r, ab_nl_0, ab_cat_i, ab_cat_r, ab_cat_l, Nat.reduceAdd, Nat.reduceLeDiff, Nat.add_zero, Nat.zero_add, reduceIte, List.getElem?_cons_succ, List.getElem?_cons_zero, List.length_cons, List.length_nil, List.set_cons_zero, List.set_cons_succ, true_or, or_true, Classical.not_not, not_true_eq_false, not_false_eq_true, ab_01r, ab_01z, ab_01n, false_implies, ab_tt, Nat.reduceLT, Nat.reduceEqDiff, Int.reduceNeg, Int.reduceLT, Int.reduceLE, Int.add_zero, Int.zero_add, List.append_nil, Int.reduceEq, ab_sum1, ab_ri_0, ab_ri_1, ab_ri_2, ab_ri_3, ab_ri_4, ab_ri_5, ab_ri_6, ab_ri_7, ab_ri_8, ab_ri_12, ab_ri_30, ab_ri_60, ab_ri_100, ab_ri_101, ab_ri_127, ab_ri_m1, ab_ri_m2, ab_ri_m3, ab_ri_m4, ab_ri_m5, ab_ri_m11, ab_ri_m13, ab_ri_m14, ab_ri_10, sp_isWithin, sp_isVector, ab_01n, ab_01z, c1, c2, q]
  · rw [if_neg (fun z => c1 z.1)] at q
    simp (disch := omega) only [s95_0, s95_1, s95_2, s95_5, s95_8, s95_9, s95_12, s95_15, s95_16, true_and, and_true, true_implies, Option.toList_some, Option.toList_none, List.nil_append, List.cons_append, List.map_nil, List.map_cons, List.sum_nil, List.sum_cons, Nat.zero_le, ab_nl_n, ab_nl_i, ab_nl_r, ab_nl_0, ab_cat_i, ab_cat_r, ab_cat_l, Nat.reduceAdd, Nat.reduceLeDiff, Nat.add_zero, Nat.zero_add, reduceIte, List.getElem?_cons_succ, List.getElem?_cons_zero, List.length_cons, List.length_nil, List.set_cons_zero, List.set_cons_succ, true_or, or_true, Classical.not_not, not_true_eq_false, not_false_eq_true, ab_01r, ab_01z, ab_01n, false_implies, ab_tt, Nat.reduceLT, Nat.reduceEqDiff, Int.reduceNeg, Int.reduceLT, Int.reduceLE, Int.add_zero, Int.zero_add, List.append_nil, Int.reduceEq, ab_sum1, ab_ri_0, ab_ri_1, ab_ri_2, ab_ri_3, ab_ri_4, ab_ri_5, ab_ri_6, ab_ri_7, ab_ri_8, ab_ri_12, ab_ri_30, ab_ri_60, ab_ri_100, ab_ri_101, ab_ri_127, ab_ri_m1, ab_ri_m2, ab_ri_m3, ab_ri_m4, ab_ri_m5, ab_ri_m11, ab_ri_m13, ab_ri_m14, ab_ri_10, sp_isWithin, ab_01n, ab_01z, c1, q]
/-- lists have changed -/
theorem ab_JC_lis {h' : ab_H} {X' : ab_X} {Y' : Int → Int64} (he : ab_eqo 62 67 h h') (J : ab_JC X Y h) (hX : ∀ i, i ≠ 8 → X' i = X i) (k : ab_lis h' X' Y') : ab_JC X' Y' h' := by
  obtain ⟨j1, j2, j3, j4, j5, j6, j7, j8, j9⟩ := J
  refine ⟨?_, ?_, ?_, ab_lad_any (ab_lad_fr (fun a _ _ => he a (by omega)) j4), ab_swp_fr (fun a _ _ => he a (by omega)) j5, ?_, ?_, ab_scr_fr (fun a _ _ => he a (by omega)) j8, k⟩
  · rw [hX 5 (by decide)]; exact (he 6 (by decide)).trans j1
  · have := ab_now_fr (fun a _ _ => he a (by omega)) j2
    unfold ab_now at this ⊢
    rw [hX 0 (by decide), hX 1 (by decide), hX 2 (by decide), hX 3 (by decide), hX 4 (by decide), hX 5 (by decide)]
    exact this
  · have := ab_kep_fr (fun a _ _ => he a (by omega)) j3
    unfold ab_kep at this ⊢
    rw [hX 5 (by decide), hX 10 (by decide), hX 11 (by decide), hX 12 (by decide), hX 13 (by decide), hX 14 (by decide), hX 15 (by decide)]
    exact this
  · have := ab_tap_fr (fun a _ _ => he a (by omega)) j6
    unfold ab_tap at this ⊢
    rw [hX 5 (by decide), hX 6 (by decide)]
    exact this
  · have := ab_pag_fr (fun a _ _ => he a (by omega)) j7
    unfold ab_pag at this ⊢
    rw [hX 5 (by decide), hX 7 (by decide)]
    exact this
theorem xc_list {l k : Int} (J : ab_JC X Y h) (I : ab_XI X) (hl : ab_inR l) (hk : ab_inR k) (q : ∀ h', ab_eqo 6 67 h h' → ab_JC (ab_n_list X l k) (ab_y_list Y l k) h' → Q (some (vi (ab_s_list l k))) h' n) : ab_G 96 0 [some (vr 6), some (vi l), some (vi k), none] [] h n (0, 0) Q := by
  obtain ⟨j1, -, -, -, -, -, -, -, j9⟩ := id J
  obtain ⟨sz, c, m1, m2, m3, m4, m5⟩ := j9
  have hkr : ab_inR k = True := eq_true hk
  unfold ab_s_list ab_n_list ab_y_list at q
  by_cases c1 : ab_isL l
  · by_cases c2 : 12 < k
    · rw [if_neg (fun z => by omega), if_neg (fun z => by omega), if_pos c1, if_pos c2] at q
      have q := q h (fun _ _ => rfl) J
      have c2n : ¬ k ≤ 12 := by omega
      simp (disch := omega) only [s96_0, s96_1, s96_2, s96_5, s96_8, s96_9, s96_10, s96_11, s96_13, s96_16, s96_18, true_and, and_true, true_implies, Option.toList_some, Option.toList_none, List.nil_append, List.cons_append, List.map_nil, List.map_cons, List.sum_nil, List.sum_cons, Nat.zero_le, ab_nl_n, ab_nl_i, ab_nl_r, ab_nl_0, ab_cat_i, ab_cat_r, ab_cat_l, Nat.reduceAdd, Nat.reduceLeDiff, Nat.add_zero, Nat.zero_add, reduceIte, List.getElem?_cons_succ, List.getElem?_cons_zero, List.length_cons, List.length_nil, List.set_cons_zero, List.set_cons_succ, true_or, or_true, Classical.not_not, not_true_eq_false, not_false_eq_true, ab_01r, ab_01z, ab_01n, false_implies, ab_tt, Nat.reduceLT, Nat.reduceEqDiff, Int.reduceNeg, Int.reduceLT, Int.reduceLE, Int.add_zero, Int.zero_add, List.append_nil, Int.reduceEq, ab_sum1, ab_ri_0, ab_ri_1, ab_ri_2, ab_ri_3, ab_ri_4, ab_ri_5, ab_ri_6, ab_ri_7, ab_ri_8, ab_ri_12, ab_ri_30, ab_ri_60, ab_ri_100, ab_ri_101, ab_ri_127, ab_ri_m1, ab_ri_m2, ab_ri_m3, ab_ri_m4, ab_ri_m5, ab_ri_m11, ab_ri_m13, ab_ri_m14, ab_ri_10, sp_isWithin, ab_01n, ab_01z, c1, c2n, hkr, q]
    · have c2n : k ≤ 12 := by omega
      by_cases c3 : k < 0
      · rw [if_neg (fun z => by omega), if_neg (fun z => by omega), if_pos c1, if_neg c2, if_pos c3] at q
        have q := q h (fun _ _ => rfl) J
        have c3n : ¬ 0 ≤ k := by omega
        simp (disch := omega) only [s96_0, s96_1, s96_2, s96_5, s96_8, s96_9, s96_10, s96_11, s96_13, s96_16, s96_18, s96_19, s96_20, s96_23, s96_25, true_and, and_true, true_implies, Option.toList_some, Option.toList_none, List.nil_append, List.cons_append, List.map_nil, List.map_cons, List.sum_nil, List.sum_cons, Nat.zero_le, ab_nl_n, ab_nl_i, ab_nl_r, ab_nl_0, ab_cat_i, ab_cat_r, ab_cat_l, Nat.reduceAdd, Nat.reduceLeDiff, Nat.add_zero, Nat.zero_add, reduceIte, List.getElem?_cons_succ, List.getElem?_cons_zero, List.length_cons, List.length_nil, List.set_cons_zero, List.set_cons_succ, true_or, or_true, Classical.not_not, not_true_eq_false, not_false_eq_true, ab_01r, ab_01z, ab_01n, false_implies, ab_tt, Nat.reduceLT, Nat.reduceEqDiff, Int.reduceNeg, Int.reduceLT, Int.reduceLE, Int.add_zero, Int.zero_add, List.append_nil, Int.reduceEq, ab_sum1, ab_ri_0, ab_ri_1, ab_ri_2, ab_ri_3, ab_ri_4, ab_ri_5, ab_ri_6, ab_ri_7, ab_ri_8, ab_ri_12, ab_ri_30, ab_ri_60, ab_ri_100, ab_ri_101, ab_ri_127, ab_ri_m1, ab_ri_m2, ab_ri_m3, ab_ri_m4, ab_ri_m5, ab_ri_m11, ab_ri_m13, ab_ri_m14, ab_ri_10, sp_isWithin, ab_01n, ab_01z, c1, c2n, c3n, hkr, q]
      · have c3n : 0 ≤ k := by omega
        rw [if_pos ⟨c1, c3n, c2n⟩, if_pos ⟨c1, c3n, c2n⟩, if_pos c1, if_neg c2, if_neg c3] at q
        have l0 := c1.1
        have l4 : l < ((4 : Nat) : Int) := by omega
        have l04 : 0 ≤ l ∧ l < 4 := by omega
        have l6 : 6 ≤ 63 + l.toNat := by omega
        have ml := m2 l l0 (by omega)
        simp (disch := omega) only [s96_0, s96_1, s96_2, s96_5, s96_8, s96_9, s96_10, s96_11, s96_13, s96_16, s96_18, s96_19, s96_20, s96_23, s96_25, s96_26, s96_27, true_and, and_true, true_implies, Option.toList_some, Option.toList_none, List.nil_append, List.cons_append, List.map_nil, List.map_cons, List.sum_nil, List.sum_cons, Nat.zero_le, ab_nl_n, ab_nl_i, ab_nl_r, ab_nl_0, ab_cat_i, ab_cat_r, ab_cat_l, Nat.reduceAdd, Nat.reduceLeDiff, Nat.add_zero, Nat.zero_add, reduceIte, List.getElem?_cons_succ, List.getElem?_cons_zero, List.length_cons, List.length_nil, List.set_cons_zero, List.set_cons_succ, true_or, or_true, Classical.not_not, not_true_eq_false, not_false_eq_true, ab_01r, ab_01z, ab_01n, false_implies, ab_tt, Nat.reduceLT, Nat.reduceEqDiff, Int.reduceNeg, Int.reduceLT, Int.reduceLE, Int.add_zero, Int.zero_add, List.append_nil, Int.reduceEq, ab_sum1, ab_ri_0, ab_ri_1, ab_ri_2, ab_ri_3, ab_ri_4, ab_ri_5, ab_ri_6, ab_ri_7, ab_ri_8, ab_ri_12, ab_ri_30, ab_ri_60, ab_ri_100, ab_ri_101, ab_ri_127, ab_ri_m1, ab_ri_m2, ab_ri_m3, ab_ri_m4, ab_ri_m5, ab_ri_m11, ab_ri_m13, ab_ri_m14, ab_ri_10, sp_isWithin, ab_01n, ab_01z, c1, c2n, c3n, hkr]
        refine ab_lp 0 k (fun i => [some (vr 6), some (vi l), some (vi k), some (vi i)]) (fun i => ab_hs h (63 + l.toNat) (.inr (.inr (.inl (12, ab_fi (fun _ => 0) (c l) 0 i))))) c3n rfl (by rw [ab_fi_0, ab_hs_id ml]) ?_ ?_
        · have fr : ∀ a, a ≠ 63 + l.toNat → a ≠ 67 → ab_hs (ab_hs h (63 + l.toNat) (.inr (.inr (.inl (12, ab_fi (fun _ => 0) (c l) 0 k))))) 67 (ab_ia 4 (ab_ui sz l k)) a = h a := fun a h1 h2 => (ab_hs_ne h2).trans (ab_hs_ne h1)
          have q := q (ab_hs (ab_hs h (63 + l.toNat) (.inr (.inr (.inl (12, ab_fi (fun _ => 0) (c l) 0 k))))) 67 (ab_ia 4 (ab_ui sz l k))) (fun a ha => fr a (by omega) (by omega)) (ab_JC_lis (fun a ha => fr a (by omega) (by omega)) J (fun i hi => ab_up_n hi) ⟨ab_ui sz l k, ab_pk l (ab_fi (fun _ => 0) (c l) 0 k) c, (fr 62 (by omega) (by decide)).trans m1, fun l' m0 m4' => by
              by_cases e : l' = l
              · rw [e, ab_pk_e]; exact (ab_hs_ne (by omega)).trans ab_hs_self
              · rw [ab_pk_n e]; exact (fr _ (by omega) (by omega)).trans (m2 l' m0 m4'), ab_hs_self, fun j j0 j4 => by
              show _ = ab_ui (X 8) l k j
              by_cases e : j = l
              · rw [e, ab_ui_at, ab_ui_at]
              · rw [ab_ui_ne e, ab_ui_ne e]; exact m4 j j0 j4, fun l' i m0 m4' i0 i12 => by
              show _ = if 12 * l ≤ 12 * l' + i ∧ 12 * l' + i < 12 * l + k then 0 else Y (12 * l' + i)
              by_cases e : l' = l
              · subst e
                rw [ab_pk_e]
                unfold ab_fi
                by_cases d : i < k
                · rw [if_pos ⟨i0, d⟩, if_pos (by omega)]
                · rw [if_neg (fun z => d z.2), if_neg (by omega)]
                  exact m5 l' i m0 m4' i0 i12
              · rw [ab_pk_n e, if_neg (by omega)]
                exact m5 l' i m0 m4' i0 i12⟩)
          have o6 : ∀ c, ab_hs h (63 + l.toNat) c 6 = some (ab_mn (X 5 3)) := fun c => (ab_hs_ne (by omega)).trans j1
          have o67 : ∀ c, ab_hs h (63 + l.toNat) c 67 = some (ab_ia 4 sz) := fun c => (ab_hs_ne (by omega)).trans m3
          rw [s96_28]
          simp only [s96_29, s96_30, s96_48, s96_49, s96_52, s96_53, s96_54, s96_55, s96_56, true_and, and_true, true_implies, Option.toList_some, Option.toList_none, List.nil_append, List.cons_append, List.map_nil, List.map_cons, List.sum_nil, List.sum_cons, Nat.zero_le, ab_nl_n, ab_nl_i, ab_nl_r, ab_nl_0, ab_cat_i, ab_cat_r, ab_cat_l, Nat.reduceAdd, Nat.reduceLeDiff, Nat.add_zero, Nat.zero_add, reduceIte, List.getElem?_cons_succ, List.getElem?_cons_zero, List.length_cons, List.length_nil, List.set_cons_zero, List.set_cons_succ, true_or, or_true, Classical.not_not, not_true_eq_false, not_false_eq_true, ab_01r, ab_01z, ab_01n, false_implies, ab_tt, Nat.reduceLT, Nat.reduceEqDiff, Int.reduceNeg, Int.reduceLT, Int.reduceLE, Int.add_zero, Int.zero_add, List.append_nil, Int.reduceEq, ab_sum1, ab_ri_0, ab_ri_1, ab_ri_2, ab_ri_3, ab_ri_4, ab_ri_5, ab_ri_6, ab_ri_7, ab_ri_8, ab_ri_12, ab_ri_30, ab_ri_60, ab_ri_100, ab_ri_101, ab_ri_127, ab_ri_m1, ab_ri_m2, ab_ri_m3, ab_ri_m4, ab_ri_m5, ab_ri_m11, ab_ri_m13, ab_ri_m14, ab_ri_10, ab_fd, ab_as, o6, o67, l0, l4, hkr, Int.le_refl, Nat.reduceLeDiff, q]
        · intro i i0 i9 ih
          have c4 : ¬ k ≤ i := by omega
          have i12 : i < ((12 : Nat) : Int) := by omega
          have o6 : ∀ c, ab_hs h (63 + l.toNat) c 6 = some (ab_mn (X 5 3)) := fun c => (ab_hs_ne (by omega)).trans j1
          have o62 : ∀ c, ab_hs h (63 + l.toNat) c 62 = h 62 := fun c => ab_hs_ne (by omega)
          have e := ab_fi_s (g := fun _ => (0 : Int64)) (f := c l) (a := 0) (i := i) i0 rfl
          rw [s96_28]
          simp only [s96_29, s96_30, s96_33, s96_34, s96_37, s96_38, s96_39, s96_40, s96_41, s96_42, s96_45, true_and, and_true, true_implies, Option.toList_some, Option.toList_none, List.nil_append, List.cons_append, List.map_nil, List.map_cons, List.sum_nil, List.sum_cons, Nat.zero_le, ab_nl_n, ab_nl_i, ab_nl_r, ab_nl_0, ab_cat_i, ab_cat_r, ab_cat_l, Nat.reduceAdd, Nat.reduceLeDiff, Nat.add_zero, Nat.zero_add, reduceIte, List.getElem?_cons_succ, List.getElem?_cons_zero, List.length_cons, List.length_nil, List.set_cons_zero, List.set_cons_succ, true_or, or_true, Classical.not_not, not_true_eq_false, not_false_eq_true, ab_01r, ab_01z, ab_01n, false_implies, ab_tt, Nat.reduceLT, Nat.reduceEqDiff, Int.reduceNeg, Int.reduceLT, Int.reduceLE, Int.add_zero, Int.zero_add, List.append_nil, Int.reduceEq, ab_sum1, ab_ri_0, ab_ri_1, ab_ri_2, ab_ri_3, ab_ri_4, ab_ri_5, ab_ri_6, ab_ri_7, ab_ri_8, ab_ri_12, ab_ri_30, ab_ri_60, ab_ri_100, ab_ri_101, ab_ri_127, ab_ri_m1, ab_ri_m2, ab_ri_m3, ab_ri_m4, ab_ri_m5, ab_ri_m11, ab_ri_m13, ab_ri_m14, ab_ri_10, ab_fd, ab_ar, ab_as8, o6, o62, m1, ab_hs_self, ab_hs_hs, l0, l4, l04, l6, i0, i12, c4, hkr, e, Nat.reduceLeDiff, ih] <;> omega
  · rw [if_neg (fun z => c1 z.1), if_neg (fun z => c1 z.1), if_neg c1] at q
    have q := q h (fun _ _ => rfl) J
    simp (disch := omega) only [s96_0, s96_1, s96_2, s96_5, s96_8, s96_9, true_and, and_true, true_implies, Option.toList_some, Option.toList_none, List.nil_append, List.cons_append, List.map_nil, List.map_cons, List.sum_nil, List.sum_cons, Nat.zero_le, ab_nl_n, ab_nl_i, ab_nl_r, ab_nl_0, ab_cat_i, ab_cat_r, ab_cat_l, Nat.reduceAdd, Nat.reduceLeDiff, Nat.add_zero, Nat.zero_add, reduceIte, List.getElem?_cons_succ, List.getElem?_cons_zero, List.length_cons, List.length_nil, List.set_cons_zero, List.set_cons_succ, true_or, or_true, Classical.not_not, not_true_eq_false, not_false_eq_true, ab_01r, ab_01z, ab_01n, false_implies, ab_tt, Nat.reduceLT, Nat.reduceEqDiff, Int.reduceNeg, Int.reduceLT, Int.reduceLE, Int.add_zero, Int.zero_add, List.append_nil, Int.reduceEq, ab_sum1, ab_ri_0, ab_ri_1, ab_ri_2, ab_ri_3, ab_ri_4, ab_ri_5, ab_ri_6, ab_ri_7, ab_ri_8, ab_ri_12, ab_ri_30, ab_ri_60, ab_ri_100, ab_ri_101, ab_ri_127, ab_ri_m1, ab_ri_m2, ab_ri_m3, ab_ri_m4, ab_ri_m5, ab_ri_m11, ab_ri_m13, ab_ri_m14, ab_ri_10, sp_isWithin, ab_01n, ab_01z, c1, q]
theorem xc_lay {l i : Int} {x : Int64} (J : ab_JC X Y h) (I : ab_XI X) (hl : ab_inR l) (hi : ab_inR i) (q : ∀ h', ab_eqo 6 67 h h' → ab_JC X (ab_y_lay X Y l i x) h' → Q (some (vi (ab_s_lay X l i))) h' n) : ab_G 97 0 [some (vr 6), some (vi l), some (vi i), some (vl x), none] [] h n (0, 0) Q := by
  obtain ⟨j1, -, -, -, -, -, -, -, j9⟩ := id J
  obtain ⟨sz, c, m1, m2, m3, m4, m5⟩ := j9
  unfold ab_s_lay ab_y_lay at q
  by_cases c1 : ab_isL l
  · have l0 := c1.1
    have l4 : l < ((4 : Nat) : Int) := by omega
    have l04 : 0 ≤ l ∧ l < 4 := by omega
    have l6 : 6 ≤ 63 + l.toNat := by omega
    have ml := m2 l l0 (by omega)
    have el := m4 l l0 (by omega)
    have I8 := I.2.2.2.2.2.2.1 l l0 (by omega)
    have hszr : ab_inR (X 8 l) = True := eq_true (by omega)
    by_cases c3 : X 8 l < 0
    · rw [if_neg (fun z => by omega), if_pos c1, if_pos c3] at q
      have q := q h (fun _ _ => rfl) J
      have c3n : ¬ 0 ≤ X 8 l := by omega
      simp (disch := omega) only [s97_0, s97_1, s97_2, s97_5, s97_8, s97_9, s97_10, s97_11, s97_14, s97_15, s97_16, s97_19, s97_21, true_and, and_true, true_implies, Option.toList_some, Option.toList_none, List.nil_append, List.cons_append, List.map_nil, List.map_cons, List.sum_nil, List.sum_cons, Nat.zero_le, ab_nl_n, ab_nl_i, ab_nl_r, ab_nl_0, ab_cat_i, ab_cat_r, ab_cat_l, Nat.reduceAdd, Nat.reduceLeDiff, Nat.add_zero, Nat.zero_add, reduceIte, List.getElem?_cons_succ, List.getElem?_cons_zero, List.length_cons, List.length_nil, List.set_cons_zero, List.set_cons_succ, true_or, or_true, Classical.not_not, not_true_eq_false, not_false_eq_true, ab_01r, ab_01z, ab_01n, false_implies, ab_tt, Nat.reduceLT, Nat.reduceEqDiff, Int.reduceNeg, Int.reduceLT, Int.reduceLE, Int.add_zero, Int.zero_add, List.append_nil, Int.reduceEq, ab_sum1, ab_ri_0, ab_ri_1, ab_ri_2, ab_ri_3, ab_ri_4, ab_ri_5, ab_ri_6, ab_ri_7, ab_ri_8, ab_ri_12, ab_ri_30, ab_ri_60, ab_ri_100, ab_ri_101, ab_ri_127, ab_ri_m1, ab_ri_m2, ab_ri_m3, ab_ri_m4, ab_ri_m5, ab_ri_m11, ab_ri_m13, ab_ri_m14, ab_ri_10, sp_isWithin, ab_01n, ab_01z, c1, ab_fd, ab_ai, j1, m3, el, l0, l4, c3n, hszr, Nat.reduceLeDiff, q]
    · have c3n : 0 ≤ X 8 l := by omega
      by_cases c4 : 0 ≤ i ∧ i ≤ X 8 l - 1
      · rw [if_pos ⟨c1, c4⟩, if_pos c1, if_neg c3, if_pos c4] at q
        have i0 := c4.1
        have i12 : i < ((12 : Nat) : Int) := by omega
        have q := q (ab_hs h (63 + l.toNat) (.inr (.inr (.inl (12, ab_ui (c l) i x))))) (fun a ha => ab_hs_ne (by omega)) (ab_JC_lis (fun a ha => ab_hs_ne (by omega)) J (fun i hi => rfl) ⟨sz, ab_pk l (ab_ui (c l) i x) c, (ab_hs_ne (by omega)).trans m1, fun l' m0 m4' => by
            by_cases e : l' = l
            · rw [e, ab_pk_e]; exact ab_hs_self
            · rw [ab_pk_n e]; exact (ab_hs_ne (by omega)).trans (m2 l' m0 m4'), (ab_hs_ne (by omega)).trans m3, m4, fun l' j m0 m4' j0 j12 => by
            by_cases e : l' = l
            · subst e
              rw [ab_pk_e]
              by_cases d : j = i
              · rw [d, ab_ui_at, ab_ui_at]
              · rw [ab_ui_ne d, ab_ui_ne (by omega)]
                exact m5 l' j m0 m4' j0 j12
            · rw [ab_pk_n e, ab_ui_ne (by omega)]
              exact m5 l' j m0 m4' j0 j12⟩)
        simp (disch := omega) only [s97_0, s97_1, s97_2, s97_5, s97_8, s97_9, s97_10, s97_11, s97_14, s97_15, s97_16, s97_19, s97_21, s97_22, s97_23, s97_24, s97_27, s97_28, s97_29, s97_30, s97_31, s97_34, s97_37, s97_39, s97_40, s97_41, s97_44, s97_45, s97_46, s97_47, s97_48, s97_49, s97_50, true_and, and_true, true_implies, Option.toList_some, Option.toList_none, List.nil_append, List.cons_append, List.map_nil, List.map_cons, List.sum_nil, List.sum_cons, Nat.zero_le, ab_nl_n, ab_nl_i, ab_nl_r, ab_nl_0, ab_cat_i, ab_cat_r, ab_cat_l, Nat.reduceAdd, Nat.reduceLeDiff, Nat.add_zero, Nat.zero_add, reduceIte, List.getElem?_cons_succ, List.getElem?_cons_zero, List.length_cons, List.length_nil, List.set_cons_zero, List.set_cons_succ, true_or, or_true, Classical.not_not, not_true_eq_false, not_false_eq_true, ab_01r, ab_01z, ab_01n, false_implies, ab_tt, Nat.reduceLT, Nat.reduceEqDiff, Int.reduceNeg, Int.reduceLT, Int.reduceLE, Int.add_zero, Int.zero_add, List.append_nil, Int.reduceEq, ab_sum1, ab_ri_0, ab_ri_1, ab_ri_2, ab_ri_3, ab_ri_4, ab_ri_5, ab_ri_6, ab_ri_7, ab_ri_8, ab_ri_12, ab_ri_30, ab_ri_60, ab_ri_100, ab_ri_101, ab_ri_127, ab_ri_m1, ab_ri_m2, ab_ri_m3, ab_ri_m4, ab_ri_m5, ab_ri_m11, ab_ri_m13, ab_ri_m14, ab_ri_10, sp_isWithin, ab_01n, ab_01z, c1, ab_fd, ab_ai, ab_ar, ab_as8, j1, m1, m3, ml, el, l0, l4, l04, l6, i0, i12, c3n, c4, hszr, Nat.reduceLeDiff, q]
      · rw [if_neg (fun z => c4 z.2), if_pos c1, if_neg c3, if_neg c4] at q
        have q := q h (fun _ _ => rfl) J
        simp (disch := omega) only [s97_0, s97_1, s97_2, s97_5, s97_8, s97_9, s97_10, s97_11, s97_14, s97_15, s97_16, s97_19, s97_21, s97_22, s97_23, s97_24, s97_27, s97_28, s97_29, s97_30, s97_31, s97_34, s97_37, s97_39, true_and, and_true, true_implies, Option.toList_some, Option.toList_none, List.nil_append, List.cons_append, List.map_nil, List.map_cons, List.sum_nil, List.sum_cons, Nat.zero_le, ab_nl_n, ab_nl_i, ab_nl_r, ab_nl_0, ab_cat_i, ab_cat_r, ab_cat_l, Nat.reduceAdd, Nat.reduceLeDiff, Nat.add_zero, Nat.zero_add, reduceIte, List.getElem?_cons_succ, List.getElem?_cons_zero, List.length_cons, List.length_nil, List.set_cons_zero, List.set_cons_succ, true_or, or_true, Classical.not_not, not_true_eq_false, not_false_eq_true, ab_01r, ab_01z, ab_01n, false_implies, ab_tt, Nat.reduceLT, Nat.reduceEqDiff, Int.reduceNeg, Int.reduceLT, Int.reduceLE, Int.add_zero, Int.zero_add, List.append_nil, Int.reduceEq, ab_sum1, ab_ri_0, ab_ri_1, ab_ri_2, ab_ri_3, ab_ri_4, ab_ri_5, ab_ri_6, ab_ri_7, ab_ri_8, ab_ri_12, ab_ri_30, ab_ri_60, ab_ri_100, ab_ri_101, ab_ri_127, ab_ri_m1, ab_ri_m2, ab_ri_m3, ab_ri_m4, ab_ri_m5, ab_ri_m11, ab_ri_m13, ab_ri_m14, ab_ri_10, sp_isWithin, ab_01n, ab_01z, c1, ab_fd, ab_ai, j1, m3, el, l0, l4, c3n, c4, hszr, Nat.reduceLeDiff, q]
  · rw [if_neg (fun z => c1 z.1), if_neg c1] at q
    have q := q h (fun _ _ => rfl) J
    simp (disch := omega) only [s97_0, s97_1, s97_2, s97_5, s97_8, s97_9, true_and, and_true, true_implies, Option.toList_some, Option.toList_none, List.nil_append, List.cons_append, List.map_nil, List.map_cons, List.sum_nil, List.sum_cons, Nat.zero_le, ab_nl_n, ab_nl_i, ab_nl_r, ab_nl_0, ab_cat_i, ab_cat_r, ab_cat_l, Nat.reduceAdd, Nat.reduceLeDiff, Nat.add_zero, Nat.zero_add, reduceIte, List.getElem?_cons_succ, List.getElem?_cons_zero, List.length_cons, List.length_nil, List.set_cons_zero, List.set_cons_succ, true_or, or_true, Classical.not_not, not_true_eq_false, not_false_eq_true, ab_01r, ab_01z, ab_01n, false_implies, ab_tt, Nat.reduceLT, Nat.reduceEqDiff, Int.reduceNeg, Int.reduceLT, Int.reduceLE, Int.add_zero, Int.zero_add, List.append_nil, Int.reduceEq, ab_sum1, ab_ri_0, ab_ri_1, ab_ri_2, ab_ri_3, ab_ri_4, ab_ri_5, ab_ri_6, ab_ri_7, ab_ri_8, ab_ri_12, ab_ri_30, ab_ri_60, ab_ri_100, ab_ri_101, ab_ri_127, ab_ri_m1, ab_ri_m2, ab_ri_m3, ab_ri_m4, ab_ri_m5, ab_ri_m11, ab_ri_m13, ab_ri_m14, ab_ri_10, sp_isWithin, ab_01n, ab_01z, c1, q]
theorem xc_get {l i : Int} (J : ab_JC X Y h) (I : ab_XI X) (hl : ab_inR l) (hi : ab_inR i) (q : Q (some (vl (ab_s_get X Y l i))) h n) : ab_G 98 0 [some (vr 6), some (vi l), some (vi i)] [] h n (0, 0) Q := by
  obtain ⟨j1, -, -, -, -, -, -, -, j9⟩ := id J
  obtain ⟨sz, c, m1, m2, m3, m4, m5⟩ := j9
  unfold ab_s_get at q
  by_cases c1 : ab_isL l
  · have l0 := c1.1
    have l4 : l < ((4 : Nat) : Int) := by omega
    have l04 : 0 ≤ l ∧ l < 4 := by omega
    have l6 : 6 ≤ 63 + l.toNat := by omega
    have ml := m2 l l0 (by omega)
    have el := m4 l l0 (by omega)
    have I8 := I.2.2.2.2.2.2.1 l l0 (by omega)
    by_cases c4 : 0 ≤ i ∧ i ≤ X 8 l - 1
    · have i0 := c4.1
      have i12 : i < ((12 : Nat) : Int) := by omega
      rw [if_pos ⟨c1, c4⟩, ← m5 l i l0 (by omega) i0 (by omega)] at q
      simp (disch := omega) only [s98_0, s98_1, s98_2, s98_5, s98_8, s98_9, s98_10, s98_13, s98_14, s98_15, s98_16, s98_17, s98_20, s98_23, s98_26, s98_27, s98_28, s98_31, s98_32, s98_33, s98_34, s98_35, true_and, and_true, true_implies, Option.toList_some, Option.toList_none, List.nil_append, List.cons_append, List.map_nil, List.map_cons, List.sum_nil, List.sum_cons, Nat.zero_le, ab_nl_n, ab_nl_i, ab_nl_r, ab_nl_0, ab_cat_i, ab_cat_r, ab_cat_l, Nat.reduceAdd, Nat.reduceLeDiff, Nat.add_zero, Nat.zero_add, reduceIte, List.getElem?_cons_succ, List.getElem?_cons_zero, List.length_cons, List.length_nil, List.set_cons_zero, List.set_cons_succ, true_or, or_true, Classical.not_not, not_true_eq_false, not_false_eq_true, ab_01r, ab_01z, ab_01n, false_implies, ab_tt, Nat.reduceLT, Nat.reduceEqDiff, Int.reduceNeg, Int.reduceLT, Int.reduceLE, Int.add_zero, Int.zero_add, List.append_nil, Int.reduceEq, ab_sum1, ab_ri_0, ab_ri_1, ab_ri_2, ab_ri_3, ab_ri_4, ab_ri_5, ab_ri_6, ab_ri_7, ab_ri_8, ab_ri_12, ab_ri_30, ab_ri_60, ab_ri_100, ab_ri_101, ab_ri_127, ab_ri_m1, ab_ri_m2, ab_ri_m3, ab_ri_m4, ab_ri_m5, ab_ri_m11, ab_ri_m13, ab_ri_m14, ab_ri_10, sp_isWithin, ab_01n, ab_01z, c1, ab_fd, ab_ai, ab_ar, ab_al8, j1, m1, m3, ml, el, l0, l4, l04, l6, i0, i12, c4, Nat.reduceLeDiff, q]
    · rw [if_neg (fun z => c4 z.2)] at q
      simp (disch := omega) only [s98_0, s98_1, s98_2, s98_5, s98_8, s98_9, s98_10, s98_13, s98_14, s98_15, s98_16, s98_17, s98_20, s98_23, s98_26, s98_27, s98_28, s98_31, s98_32, s98_33, s98_34, s98_35, true_and, and_true, true_implies, Option.toList_some, Option.toList_none, List.nil_append, List.cons_append, List.map_nil, List.map_cons, List.sum_nil, List.sum_cons, Nat.zero_le, ab_nl_n, ab_nl_i, ab_nl_r, ab_nl_0, ab_cat_i, ab_cat_r, ab_cat_l, Nat.reduceAdd, Nat.reduceLeDiff, Nat.add_zero, Nat.zero_add, reduceIte, List.getElem?_cons_succ, List.getElem?_cons_zero, List.length_cons, List.length_nil, List.set_cons_zero, List.set_cons_succ, true_or, or_true, Classical.not_not, not_true_eq_false, not_false_eq_true, ab_01r, ab_01z, ab_01n, false_implies, ab_tt, Nat.reduceLT, Nat.reduceEqDiff, Int.reduceNeg, Int.reduceLT, Int.reduceLE, Int.add_zero, Int.zero_add, List.append_nil, Int.reduceEq, ab_sum1, ab_ri_0, ab_ri_1, ab_ri_2, ab_ri_3, ab_ri_4, ab_ri_5, ab_ri_6, ab_ri_7, ab_ri_8, ab_ri_12, ab_ri_30, ab_ri_60, ab_ri_100, ab_ri_101, ab_ri_127, ab_ri_m1, ab_ri_m2, ab_ri_m3, ab_ri_m4, ab_ri_m5, ab_ri_m11, ab_ri_m13, ab_ri_m14, ab_ri_10, sp_isWithin, ab_01n, ab_01z, c1, ab_fd, ab_ai, j1, m3, el, l0, l4, c4, Nat.reduceLeDiff, q]
  · rw [if_neg (fun z => c1 z.1)] at q
    simp (disch := omega) only [s98_0, s98_1, s98_2, s98_5, s98_8, s98_9, s98_10, s98_13, s98_14, s98_15, s98_16, s98_17, s98_20, s98_23, s98_26, s98_27, s98_28, s98_31, s98_32, s98_33, s98_34, s98_35, true_and, and_true, true_implies, Option.toList_some, Option.toList_none, List.nil_append, List.cons_append, List.map_nil, List.map_cons, List.sum_nil, List.sum_cons, Nat.zero_le, ab_nl_n, ab_nl_i, ab_nl_r, ab_nl_0, ab_cat_i, ab_cat_r, ab_cat_l, Nat.reduceAdd, Nat.reduceLeDiff, Nat.add_zero, Nat.zero_add, reduceIte, List.getElem?_cons_succ, List.getElem?_cons_zero, List.length_cons, List.length_nil, List.set_cons_zero, List.set_cons_succ, true_or, or_true, Classical.not_not, not_true_eq_false, not_false_eq_true, ab_01r, ab_01z, ab_01n, false_implies, ab_tt, Nat.reduceLT, Nat.reduceEqDiff, Int.reduceNeg, Int.reduceLT, Int.reduceLE, Int.add_zero, Int.zero_add, List.append_nil, Int.reduceEq, ab_sum1, ab_ri_0, ab_ri_1, ab_ri_2, ab_ri_3, ab_ri_4, ab_ri_5, ab_ri_6, ab_ri_7, ab_ri_8, ab_ri_12, ab_ri_30, ab_ri_60, ab_ri_100, ab_ri_101, ab_ri_127, ab_ri_m1, ab_ri_m2, ab_ri_m3, ab_ri_m4, ab_ri_m5, ab_ri_m11, ab_ri_m13, ab_ri_m14, ab_ri_10, sp_isWithin, ab_01n, ab_01z, c1, q]
theorem xc_image (J : ab_JC X Y h) (I : ab_XI X) (q : ∀ h', ab_eqo 6 67 h h' → ab_JC (ab_n_image X) Y h' → Q (some (vi (X 0 0))) h' n) : ab_G 99 0 [some (vr 6)] [] h n (0, 0) Q := by
  obtain ⟨j1, j2, j3, j4, j5, j6, j7, j8, j9⟩ := id J
  obtain ⟨l, hv, f, w, b, kx, k7, k8, k9, k10, k11⟩ := id j2
  obtain ⟨l', hv', f', w', b', r', mx, -⟩ := j3
  have kx1 : h 7 = some (.inl (4, [vr 8, vr 9, vr 18, vr 19, vi (X 5 0)])) := kx.1
  have mx1 := mx.1
  simp only [Nat.reduceAdd] at mx1
  simp only [s99_0, s99_1, s99_4, s99_5, s99_8, true_and, and_true, true_implies, Option.toList_some, Option.toList_none, List.nil_append, List.cons_append, List.map_nil, List.map_cons, List.sum_nil, List.sum_cons, Nat.zero_le, ab_nl_n, ab_nl_i, ab_nl_r, ab_nl_0, ab_cat_i, ab_cat_r, ab_cat_l, Nat.reduceAdd, Nat.reduceLeDiff, Nat.add_zero, Nat.zero_add, reduceIte, List.getElem?_cons_succ, List.getElem?_cons_zero, List.length_cons, List.length_nil, List.set_cons_zero, List.set_cons_succ, true_or, or_true, Classical.not_not, not_true_eq_false, not_false_eq_true, ab_01r, ab_01z, ab_01n, false_implies, ab_tt, Nat.reduceLT, Nat.reduceEqDiff, Int.reduceNeg, Int.reduceLT, Int.reduceLE, Int.add_zero, Int.zero_add, List.append_nil, Int.reduceEq, ab_sum1, ab_ri_0, ab_ri_1, ab_ri_2, ab_ri_3, ab_ri_4, ab_ri_5, ab_ri_6, ab_ri_7, ab_ri_8, ab_ri_12, ab_ri_30, ab_ri_60, ab_ri_100, ab_ri_101, ab_ri_127, ab_ri_m1, ab_ri_m2, ab_ri_m3, ab_ri_m4, ab_ri_m5, ab_ri_m11, ab_ri_m13, ab_ri_m14, ab_ri_10, ab_fd, ab_vc, ab_sv_11_245, j1, kx1, mx1, Nat.reduceLeDiff]
  refine sp_stateCopy (by decide) (by decide) (by decide) mx kx fun h1 e1 s1 => ?_
  have o6 := (e1 6 (by decide)).trans j1
  have fr : ∀ a, (a < 6 ∨ (6 < a ∧ a < 20) ∨ 32 < a) → ab_hs h1 6 (ab_mn 1) a = h a := fun a ha => (ab_hs_ne (by omega)).trans (e1 a (by omega))
  have sx : ab_stx (ab_hs h1 6 (ab_mn 1)) 20 (ab_fi l l' 0 4) hv (fun v => ab_fi (f v) (f' v) 0 7) (ab_fi w w' 0 8) (ab_fi b b' 0 8) (X 5 0) := ab_stx_fr (fun a _ _ => ab_hs_ne (by omega)) s1
  have q := q (ab_hs h1 6 (ab_mn 1)) (fun a ha => fr a (by omega)) ⟨ab_hs_self, ab_now_fr (fun a _ _ => fr a (by omega)) j2, ⟨_, _, _, _, _, _, sx, fun _ => ⟨_, _, _, _, _, sx, fun j j0 j4 => by rw [ab_fi_lo ⟨j0, j4⟩]; exact k7 j j0 j4, k8, fun v i v0 v4 i0 i7 => by show ab_fi (f v) (f' v) 0 7 i = _; rw [ab_fi_lo ⟨i0, i7⟩]; exact k9 v i v0 v4 i0 i7, fun j j0 j8 => by rw [ab_fi_lo ⟨j0, j8⟩]; exact k10 j j0 j8, fun j j0 j8 => by rw [ab_fi_lo ⟨j0, j8⟩]; exact k11 j j0 j8⟩⟩, ab_lad_fr (fun a _ _ => fr a (by omega)) j4, ab_swp_fr (fun a _ _ => fr a (by omega)) j5, ab_tap_fr (fun a _ _ => fr a (by omega)) j6, ab_pag_fr (fun a _ _ => fr a (by omega)) j7, ab_scr_fr (fun a _ _ => fr a (by omega)) j8, ab_lis_fr (fun a _ _ => fr a (by omega)) j9⟩
  have o7 : ∀ c, ab_hs h1 6 c 7 = some (.inl (4, [vr 8, vr 9, vr 18, vr 19, vi (X 5 0)])) := fun c => (ab_hs_ne (by decide)).trans ((e1 7 (by decide)).trans kx1)
  have o8 : ∀ c, ab_hs h1 6 c 8 = some (ab_ia 4 l) := fun c => (ab_hs_ne (by decide)).trans ((e1 8 (by decide)).trans kx.2.1)
  have e0 := k7 0 (by decide) (by decide)
  have z4 : (0 : Int) < ((4 : Nat) : Int) := by omega
  simp only [s99_11, s99_12, s99_13, s99_16, s99_17, s99_20, s99_23, s99_24, s99_25, true_and, and_true, true_implies, Option.toList_some, Option.toList_none, List.nil_append, List.cons_append, List.map_nil, List.map_cons, List.sum_nil, List.sum_cons, Nat.zero_le, ab_nl_n, ab_nl_i, ab_nl_r, ab_nl_0, ab_cat_i, ab_cat_r, ab_cat_l, Nat.reduceAdd, Nat.reduceLeDiff, Nat.add_zero, Nat.zero_add, reduceIte, List.getElem?_cons_succ, List.getElem?_cons_zero, List.length_cons, List.length_nil, List.set_cons_zero, List.set_cons_succ, true_or, or_true, Classical.not_not, not_true_eq_false, not_false_eq_true, ab_01r, ab_01z, ab_01n, false_implies, ab_tt, Nat.reduceLT, Nat.reduceEqDiff, Int.reduceNeg, Int.reduceLT, Int.reduceLE, Int.add_zero, Int.zero_add, List.append_nil, Int.reduceEq, ab_sum1, ab_ri_0, ab_ri_1, ab_ri_2, ab_ri_3, ab_ri_4, ab_ri_5, ab_ri_6, ab_ri_7, ab_ri_8, ab_ri_12, ab_ri_30, ab_ri_60, ab_ri_100, ab_ri_101, ab_ri_127, ab_ri_m1, ab_ri_m2, ab_ri_m3, ab_ri_m4, ab_ri_m5, ab_ri_m11, ab_ri_m13, ab_ri_m14, ab_ri_10, ab_fd, ab_fs, ab_ai, ab_fit, ab_tyf, tyX11, o6, o7, o8, ab_hs_self, e0, z4, Int.le_refl, Nat.reduceLeDiff, q]
theorem xc_undo (J : ab_JC X Y h) (I : ab_XI X) (q : ∀ h', ab_eqo 6 67 h h' → ab_JC (ab_n_undo X) Y h' → Q (some (vi (ab_s_undo X))) h' n) : ab_G 100 0 [some (vr 6)] [] h n (0, 0) Q := by
  obtain ⟨j1, j2, j3, j4, j5, j6, j7, j8, j9⟩ := id J
  have hi := I.2.2.2.2.2.1
  unfold ab_s_undo ab_n_undo at q
  by_cases c : X 5 3 = 0
  · rw [if_pos c, if_pos c] at q
    have q := q h (fun _ _ => rfl) J
    simp only [s100_0, s100_1, s100_4, s100_7, s100_9, true_and, and_true, true_implies, Option.toList_some, Option.toList_none, List.nil_append, List.cons_append, List.map_nil, List.map_cons, List.sum_nil, List.sum_cons, Nat.zero_le, ab_nl_n, ab_nl_i, ab_nl_r, ab_nl_0, ab_cat_i, ab_cat_r, ab_cat_l, Nat.reduceAdd, Nat.reduceLeDiff, Nat.add_zero, Nat.zero_add, reduceIte, List.getElem?_cons_succ, List.getElem?_cons_zero, List.length_cons, List.length_nil, List.set_cons_zero, List.set_cons_succ, true_or, or_true, Classical.not_not, not_true_eq_false, not_false_eq_true, ab_01r, ab_01z, ab_01n, false_implies, ab_tt, Nat.reduceLT, Nat.reduceEqDiff, Int.reduceNeg, Int.reduceLT, Int.reduceLE, Int.add_zero, Int.zero_add, List.append_nil, Int.reduceEq, ab_sum1, ab_ri_0, ab_ri_1, ab_ri_2, ab_ri_3, ab_ri_4, ab_ri_5, ab_ri_6, ab_ri_7, ab_ri_8, ab_ri_12, ab_ri_30, ab_ri_60, ab_ri_100, ab_ri_101, ab_ri_127, ab_ri_m1, ab_ri_m2, ab_ri_m3, ab_ri_m4, ab_ri_m5, ab_ri_m11, ab_ri_m13, ab_ri_m14, ab_ri_10, ab_fd, j1, c, Nat.reduceLeDiff, q] <;> omega
  · rw [if_neg c, if_neg c] at q
    have c1 : X 5 3 = 1 := by omega
    obtain ⟨l, hv, f, w, b, kx, -⟩ := id j2
    obtain ⟨-, -, -, -, -, -, -, jk⟩ := id j3
    obtain ⟨l', hv', f', w', b', mx, m7, m8, m9, m10, m11⟩ := jk c1
    have kx1 : h 7 = some (.inl (4, [vr 8, vr 9, vr 18, vr 19, vi (X 5 0)])) := kx.1
    have mx1 := mx.1
    simp only [Nat.reduceAdd] at mx1
    have hr3 : ab_inR (X 5 3) = True := eq_true (by omega)
    simp only [s100_0, s100_1, s100_4, s100_7, s100_9, s100_10, s100_11, s100_14, s100_15, s100_18, true_and, and_true, true_implies, Option.toList_some, Option.toList_none, List.nil_append, List.cons_append, List.map_nil, List.map_cons, List.sum_nil, List.sum_cons, Nat.zero_le, ab_nl_n, ab_nl_i, ab_nl_r, ab_nl_0, ab_cat_i, ab_cat_r, ab_cat_l, Nat.reduceAdd, Nat.reduceLeDiff, Nat.add_zero, Nat.zero_add, reduceIte, List.getElem?_cons_succ, List.getElem?_cons_zero, List.length_cons, List.length_nil, List.set_cons_zero, List.set_cons_succ, true_or, or_true, Classical.not_not, not_true_eq_false, not_false_eq_true, ab_01r, ab_01z, ab_01n, false_implies, ab_tt, Nat.reduceLT, Nat.reduceEqDiff, Int.reduceNeg, Int.reduceLT, Int.reduceLE, Int.add_zero, Int.zero_add, List.append_nil, Int.reduceEq, ab_sum1, ab_ri_0, ab_ri_1, ab_ri_2, ab_ri_3, ab_ri_4, ab_ri_5, ab_ri_6, ab_ri_7, ab_ri_8, ab_ri_12, ab_ri_30, ab_ri_60, ab_ri_100, ab_ri_101, ab_ri_127, ab_ri_m1, ab_ri_m2, ab_ri_m3, ab_ri_m4, ab_ri_m5, ab_ri_m11, ab_ri_m13, ab_ri_m14, ab_ri_10, ab_fd, ab_vc, ab_sv_11_245, j1, kx1, mx1, c, hr3, Nat.reduceLeDiff]
    refine sp_stateCopy (by decide) (by decide) (by decide) kx mx fun h1 e1 s1 => ?_
    have sx : ab_now h1 (fun i => if i = 0 then X 10 else if i = 1 then X 11 else if i = 2 then X 12 else if i = 3 then X 13 else if i = 4 then X 14 else if i = 5 then ab_ui (X 5) 0 (X 15 0) else X i) := ⟨_, _, _, _, _, s1, fun j j0 j4 => by rw [ab_fi_lo ⟨j0, j4⟩]; exact m7 j j0 j4, m8, fun v i v0 v4 i0 i7 => by show ab_fi (f' v) (f v) 0 7 i = _; rw [ab_fi_lo ⟨i0, i7⟩]; exact m9 v i v0 v4 i0 i7, fun j j0 j8 => by rw [ab_fi_lo ⟨j0, j8⟩]; exact m10 j j0 j8, fun j j0 j8 => by rw [ab_fi_lo ⟨j0, j8⟩]; exact m11 j j0 j8⟩
    have q := q h1 (fun a ha => e1 a (by omega)) (ab_JC_now e1 J (fun i hi => by
      by_cases e : i = 5
      · refine Or.inr ⟨e, fun j hj => ?_⟩
        show ab_ui (X 5) 0 (X 15 0) j = _
        rw [ab_ui_ne hj]
      · refine Or.inl ?_
        show (if i = 0 then X 10 else if i = 1 then X 11 else if i = 2 then X 12 else if i = 3 then X 13 else if i = 4 then X 14 else if i = 5 then ab_ui (X 5) 0 (X 15 0) else X i) = X i
        rw [if_neg (by omega), if_neg (by omega), if_neg (by omega), if_neg (by omega), if_neg (by omega), if_neg e]) sx)
    have o6 := (e1 6 (by decide)).trans j1
    have o7 : h1 7 = some (.inl (4, [vr 8, vr 9, vr 18, vr 19, vi (X 15 0)])) := s1.1
    have o8 : h1 8 = some (ab_ia 4 (ab_fi l' l 0 4)) := s1.2.1
    have e0 : ab_fi l' l 0 4 0 = X 10 0 := (ab_fi_lo ⟨by decide, by decide⟩).trans (m7 0 (by decide) (by decide))
    have z4 : (0 : Int) < ((4 : Nat) : Int) := by omega
    simp only [s100_21, s100_22, s100_25, s100_28, s100_29, s100_30, true_and, and_true, true_implies, Option.toList_some, Option.toList_none, List.nil_append, List.cons_append, List.map_nil, List.map_cons, List.sum_nil, List.sum_cons, Nat.zero_le, ab_nl_n, ab_nl_i, ab_nl_r, ab_nl_0, ab_cat_i, ab_cat_r, ab_cat_l, Nat.reduceAdd, Nat.reduceLeDiff, Nat.add_zero, Nat.zero_add, reduceIte, List.getElem?_cons_succ, List.getElem?_cons_zero, List.length_cons, List.length_nil, List.set_cons_zero, List.set_cons_succ, true_or, or_true, Classical.not_not, not_true_eq_false, not_false_eq_true, ab_01r, ab_01z, ab_01n, false_implies, ab_tt, Nat.reduceLT, Nat.reduceEqDiff, Int.reduceNeg, Int.reduceLT, Int.reduceLE, Int.add_zero, Int.zero_add, List.append_nil, Int.reduceEq, ab_sum1, ab_ri_0, ab_ri_1, ab_ri_2, ab_ri_3, ab_ri_4, ab_ri_5, ab_ri_6, ab_ri_7, ab_ri_8, ab_ri_12, ab_ri_30, ab_ri_60, ab_ri_100, ab_ri_101, ab_ri_127, ab_ri_m1, ab_ri_m2, ab_ri_m3, ab_ri_m4, ab_ri_m5, ab_ri_m11, ab_ri_m13, ab_ri_m14, ab_ri_10, ab_fd, ab_ai, o6, o7, o8, e0, z4, Int.le_refl, Nat.reduceLeDiff, q]
theorem xc_count {w : Int} (J : ab_JC X Y h) (I : ab_XI X) (hw : ab_inR w) (q : Q (some (vi (ab_s_count X w))) h n) : ab_G 101 0 [some (vr 6), some (vi w)] [] h n (0, 0) Q := by
  obtain ⟨j1, j2, j3, j4, j5, j6, j7, j8, j9⟩ := id J
  obtain ⟨l, hv, f, ws, b, kx, k7, k8, k9, k10, k11⟩ := id j2
  have kx1 : h 7 = some (.inl (4, [vr 8, vr 9, vr 18, vr 19, vi (X 5 0)])) := kx.1
  obtain ⟨p, nu, mc, b0, gm, t1, t2, t3, t4⟩ := j7
  obtain ⟨p', nu', mc', b0', gm', u1, u2, u3, u4⟩ := j6
  unfold ab_s_count at q
  simp only [s101_0, true_and, and_true, true_implies, Option.toList_some, Option.toList_none, List.nil_append, List.cons_append, List.map_nil, List.map_cons, List.sum_nil, List.sum_cons, Nat.zero_le, ab_nl_n, ab_nl_i, ab_nl_r, ab_nl_0, ab_cat_i, ab_cat_r, ab_cat_l, Nat.reduceAdd, Nat.reduceLeDiff, Nat.add_zero, Nat.zero_add, reduceIte, List.getElem?_cons_succ, List.getElem?_cons_zero, List.length_cons, List.length_nil, List.set_cons_zero, List.set_cons_succ, true_or, or_true, Classical.not_not, not_true_eq_false, not_false_eq_true, ab_01r, ab_01z, ab_01n, false_implies, ab_tt, Nat.reduceLT, Nat.reduceEqDiff, Int.reduceNeg, Int.reduceLT, Int.reduceLE, Int.add_zero, Int.zero_add, List.append_nil, Int.reduceEq, ab_sum1, ab_ri_0, ab_ri_1, ab_ri_2, ab_ri_3, ab_ri_4, ab_ri_5, ab_ri_6, ab_ri_7, ab_ri_8, ab_ri_12, ab_ri_30, ab_ri_60, ab_ri_100, ab_ri_101, ab_ri_127, ab_ri_m1, ab_ri_m2, ab_ri_m3, ab_ri_m4, ab_ri_m5, ab_ri_m11, ab_ri_m13, ab_ri_m14, ab_ri_10]
  refine s101_1 ⟨hw, fun e => ?_, fun e => ?_, fun e => ?_, fun e => ?_, fun e => ?_⟩
  · rw [if_neg (by omega), if_neg (by omega), if_neg (by omega), if_neg (by omega)] at q
    simp only [s101_64, s101_66, true_and, and_true, true_implies, Option.toList_some, Option.toList_none, List.nil_append, List.cons_append, List.map_nil, List.map_cons, List.sum_nil, List.sum_cons, Nat.zero_le, ab_nl_n, ab_nl_i, ab_nl_r, ab_nl_0, ab_cat_i, ab_cat_r, ab_cat_l, Nat.reduceAdd, Nat.reduceLeDiff, Nat.add_zero, Nat.zero_add, reduceIte, List.getElem?_cons_succ, List.getElem?_cons_zero, List.length_cons, List.length_nil, List.set_cons_zero, List.set_cons_succ, true_or, or_true, Classical.not_not, not_true_eq_false, not_false_eq_true, ab_01r, ab_01z, ab_01n, false_implies, ab_tt, Nat.reduceLT, Nat.reduceEqDiff, Int.reduceNeg, Int.reduceLT, Int.reduceLE, Int.add_zero, Int.zero_add, List.append_nil, Int.reduceEq, ab_sum1, ab_ri_0, ab_ri_1, ab_ri_2, ab_ri_3, ab_ri_4, ab_ri_5, ab_ri_6, ab_ri_7, ab_ri_8, ab_ri_12, ab_ri_30, ab_ri_60, ab_ri_100, ab_ri_101, ab_ri_127, ab_ri_m1, ab_ri_m2, ab_ri_m3, ab_ri_m4, ab_ri_m5, ab_ri_m11, ab_ri_m13, ab_ri_m14, ab_ri_10, q]
  · rw [if_pos e] at q
    simp only [s101_32, s101_33, s101_36, true_and, and_true, true_implies, Option.toList_some, Option.toList_none, List.nil_append, List.cons_append, List.map_nil, List.map_cons, List.sum_nil, List.sum_cons, Nat.zero_le, ab_nl_n, ab_nl_i, ab_nl_r, ab_nl_0, ab_cat_i, ab_cat_r, ab_cat_l, Nat.reduceAdd, Nat.reduceLeDiff, Nat.add_zero, Nat.zero_add, reduceIte, List.getElem?_cons_succ, List.getElem?_cons_zero, List.length_cons, List.length_nil, List.set_cons_zero, List.set_cons_succ, true_or, or_true, Classical.not_not, not_true_eq_false, not_false_eq_true, ab_01r, ab_01z, ab_01n, false_implies, ab_tt, Nat.reduceLT, Nat.reduceEqDiff, Int.reduceNeg, Int.reduceLT, Int.reduceLE, Int.add_zero, Int.zero_add, List.append_nil, Int.reduceEq, ab_sum1, ab_ri_0, ab_ri_1, ab_ri_2, ab_ri_3, ab_ri_4, ab_ri_5, ab_ri_6, ab_ri_7, ab_ri_8, ab_ri_12, ab_ri_30, ab_ri_60, ab_ri_100, ab_ri_101, ab_ri_127, ab_ri_m1, ab_ri_m2, ab_ri_m3, ab_ri_m4, ab_ri_m5, ab_ri_m11, ab_ri_m13, ab_ri_m14, ab_ri_10, ab_fd, ab_vc, ab_sv_11_252, j1, kx1, Nat.reduceLeDiff]
    refine sp_filledNumbers (by decide) kx (fun v i v0 v4 i0 i7 => by rw [k9 v i v0 v4 i0 i7]; exact I.1.2.2.1 _ (by omega) (by omega)) ?_
    rw [ab_fn_cg (g := ab_cv X) 4 (fun v i v0 v4 i0 i7 => k9 v i v0 v4 i0 i7)]
    simp only [s101_39, true_and, and_true, true_implies, Option.toList_some, Option.toList_none, List.nil_append, List.cons_append, List.map_nil, List.map_cons, List.sum_nil, List.sum_cons, Nat.zero_le, ab_nl_n, ab_nl_i, ab_nl_r, ab_nl_0, ab_cat_i, ab_cat_r, ab_cat_l, Nat.reduceAdd, Nat.reduceLeDiff, Nat.add_zero, Nat.zero_add, reduceIte, List.getElem?_cons_succ, List.getElem?_cons_zero, List.length_cons, List.length_nil, List.set_cons_zero, List.set_cons_succ, true_or, or_true, Classical.not_not, not_true_eq_false, not_false_eq_true, ab_01r, ab_01z, ab_01n, false_implies, ab_tt, Nat.reduceLT, Nat.reduceEqDiff, Int.reduceNeg, Int.reduceLT, Int.reduceLE, Int.add_zero, Int.zero_add, List.append_nil, Int.reduceEq, ab_sum1, ab_ri_0, ab_ri_1, ab_ri_2, ab_ri_3, ab_ri_4, ab_ri_5, ab_ri_6, ab_ri_7, ab_ri_8, ab_ri_12, ab_ri_30, ab_ri_60, ab_ri_100, ab_ri_101, ab_ri_127, ab_ri_m1, ab_ri_m2, ab_ri_m3, ab_ri_m4, ab_ri_m5, ab_ri_m11, ab_ri_m13, ab_ri_m14, ab_ri_10, q]
  · rw [if_neg (by omega), if_pos e] at q
    simp only [s101_40, s101_41, s101_44, s101_47, true_and, and_true, true_implies, Option.toList_some, Option.toList_none, List.nil_append, List.cons_append, List.map_nil, List.map_cons, List.sum_nil, List.sum_cons, Nat.zero_le, ab_nl_n, ab_nl_i, ab_nl_r, ab_nl_0, ab_cat_i, ab_cat_r, ab_cat_l, Nat.reduceAdd, Nat.reduceLeDiff, Nat.add_zero, Nat.zero_add, reduceIte, List.getElem?_cons_succ, List.getElem?_cons_zero, List.length_cons, List.length_nil, List.set_cons_zero, List.set_cons_succ, true_or, or_true, Classical.not_not, not_true_eq_false, not_false_eq_true, ab_01r, ab_01z, ab_01n, false_implies, ab_tt, Nat.reduceLT, Nat.reduceEqDiff, Int.reduceNeg, Int.reduceLT, Int.reduceLE, Int.add_zero, Int.zero_add, List.append_nil, Int.reduceEq, ab_sum1, ab_ri_0, ab_ri_1, ab_ri_2, ab_ri_3, ab_ri_4, ab_ri_5, ab_ri_6, ab_ri_7, ab_ri_8, ab_ri_12, ab_ri_30, ab_ri_60, ab_ri_100, ab_ri_101, ab_ri_127, ab_ri_m1, ab_ri_m2, ab_ri_m3, ab_ri_m4, ab_ri_m5, ab_ri_m11, ab_ri_m13, ab_ri_m14, ab_ri_10, ab_fd, j1, u1, Nat.reduceLeDiff, q]
  · rw [if_neg (by omega), if_neg (by omega), if_pos e] at q
    simp only [s101_48, s101_49, s101_52, s101_55, true_and, and_true, true_implies, Option.toList_some, Option.toList_none, List.nil_append, List.cons_append, List.map_nil, List.map_cons, List.sum_nil, List.sum_cons, Nat.zero_le, ab_nl_n, ab_nl_i, ab_nl_r, ab_nl_0, ab_cat_i, ab_cat_r, ab_cat_l, Nat.reduceAdd, Nat.reduceLeDiff, Nat.add_zero, Nat.zero_add, reduceIte, List.getElem?_cons_succ, List.getElem?_cons_zero, List.length_cons, List.length_nil, List.set_cons_zero, List.set_cons_succ, true_or, or_true, Classical.not_not, not_true_eq_false, not_false_eq_true, ab_01r, ab_01z, ab_01n, false_implies, ab_tt, Nat.reduceLT, Nat.reduceEqDiff, Int.reduceNeg, Int.reduceLT, Int.reduceLE, Int.add_zero, Int.zero_add, List.append_nil, Int.reduceEq, ab_sum1, ab_ri_0, ab_ri_1, ab_ri_2, ab_ri_3, ab_ri_4, ab_ri_5, ab_ri_6, ab_ri_7, ab_ri_8, ab_ri_12, ab_ri_30, ab_ri_60, ab_ri_100, ab_ri_101, ab_ri_127, ab_ri_m1, ab_ri_m2, ab_ri_m3, ab_ri_m4, ab_ri_m5, ab_ri_m11, ab_ri_m13, ab_ri_m14, ab_ri_10, ab_fd, j1, t1, Nat.reduceLeDiff, q]
  · rw [if_neg (by omega), if_neg (by omega), if_neg (by omega), if_pos e] at q
    simp only [s101_56, s101_57, s101_60, s101_63, true_and, and_true, true_implies, Option.toList_some, Option.toList_none, List.nil_append, List.cons_append, List.map_nil, List.map_cons, List.sum_nil, List.sum_cons, Nat.zero_le, ab_nl_n, ab_nl_i, ab_nl_r, ab_nl_0, ab_cat_i, ab_cat_r, ab_cat_l, Nat.reduceAdd, Nat.reduceLeDiff, Nat.add_zero, Nat.zero_add, reduceIte, List.getElem?_cons_succ, List.getElem?_cons_zero, List.length_cons, List.length_nil, List.set_cons_zero, List.set_cons_succ, true_or, or_true, Classical.not_not, not_true_eq_false, not_false_eq_true, ab_01r, ab_01z, ab_01n, false_implies, ab_tt, Nat.reduceLT, Nat.reduceEqDiff, Int.reduceNeg, Int.reduceLT, Int.reduceLE, Int.add_zero, Int.zero_add, List.append_nil, Int.reduceEq, ab_sum1, ab_ri_0, ab_ri_1, ab_ri_2, ab_ri_3, ab_ri_4, ab_ri_5, ab_ri_6, ab_ri_7, ab_ri_8, ab_ri_12, ab_ri_30, ab_ri_60, ab_ri_100, ab_ri_101, ab_ri_127, ab_ri_m1, ab_ri_m2, ab_ri_m3, ab_ri_m4, ab_ri_m5, ab_ri_m11, ab_ri_m13, ab_ri_m14, ab_ri_10, ab_fd, j1, kx1, Nat.reduceLeDiff, q]
end JG
