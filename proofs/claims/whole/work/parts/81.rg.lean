/-! ===== answers are ints ===== -/
section RG
variable {X : ab_X} {Y : Int → Int64}
theorem ab_lok_w {L : Int → Int} {w : Int} (h : ab_lok L) (hw : 0 ≤ w ∧ w ≤ 3) : 0 ≤ L w ∧ L w ≤ 100 := by
  obtain ⟨a, b, c, d⟩ := h
  have e : w = 0 ∨ w = 1 ∨ w = 2 ∨ w = 3 := by omega
  rcases e with rfl | rfl | rfl | rfl
  · omega
  · exact b
  · exact c
  · exact d
theorem rg_set {w v : Int} (I : ab_XI X) : ab_inR (ab_s_set X w v) := by
  unfold ab_s_set
  by_cases c : 0 ≤ w ∧ w ≤ 3
  · have := ab_lok_w I.1.1 c
    rw [if_pos c]
    generalize X 0 w = z at this
    split <;> omega
  · rw [if_neg c]
    omega
theorem rg_of {w : Int} (I : ab_XI X) : ab_inR (ab_s_of X w) := by
  unfold ab_s_of
  by_cases c : 0 ≤ w ∧ w ≤ 3
  · have := ab_lok_w I.1.1 c
    rw [if_pos c]
    omega
  · rw [if_neg c]
    omega
theorem rg_bracket {m k w : Int} : ab_inR (ab_s_bracket X m k w) := by
  unfold ab_s_bracket
  (repeat' split) <;> omega
theorem rg_partition {lv i k : Int} : ab_inR (ab_s_partition lv i k) := by
  unfold ab_s_partition
  by_cases c : ab_isB lv i
  · have hb := (ab_isB_b c).1
    have h1 := ab_first_r hb.1 hb.2
    have h2 := ab_rests_r hb.1 hb.2 k.toNat
    have h3 := ab_first_r h2.1 h2.2
    rw [if_pos c]
    (repeat' split) <;> omega
  · rw [if_neg c]
    omega
theorem rg_act {m lv i j : Int} (I : ab_XI X) : ab_inR (ab_s_act X m lv i j) := by
  unfold ab_s_act
  have := ab_AT_r I.1.1 ((ab_START lv + i) * 19 + (ab_START (lv - m) + j))
  generalize ab_AT (X 0) ((ab_START lv + i) * 19 + (ab_START (lv - m) + j)) = z at this
  (repeat' split) <;> omega
theorem rg_form {lv i j : Int} : ab_inR (ab_s_form X lv i j) := by
  unfold ab_s_form
  have := ab_FT_r (L := X 0) ((ab_START lv + i) * 19 + (ab_START lv + j))
  generalize ab_FT (X 0) ((ab_START lv + i) * 19 + (ab_START lv + j)) = z at this
  (repeat' split) <;> omega
theorem rg_det {l : Int} : ab_inR (ab_s_det X l) := by
  unfold ab_s_det
  by_cases c : 0 ≤ l ∧ l ≤ 5
  · have := ab_DT_r (L := X 0) c.1 c.2
    rw [if_pos c]
    omega
  · rw [if_neg c]
    omega
theorem rg_rank {l : Int} : ab_inR (ab_s_rank X l) := by
  unfold ab_s_rank
  by_cases c : 0 ≤ l ∧ l ≤ 5
  · have hw := ab_wd_eq c.1 (by omega)
    have ok := ab_rd_ok (R := ab_wd l) (C := ab_wd l) (M := ab_fm (X 0) l) (g := fun _ => 0) (by omega) (by omega) (fun r c _ _ _ _ => ab_FT_r _) (ab_wd l).toNat
    have h1 := ok.2.1
    have h2 := ok.2.2.1
    rw [if_pos c]
    unfold ab_fr
    omega
  · rw [if_neg c]
    omega
theorem ab_wt_r {f : Int → Int} {v : Int} : ∀ (k : Nat) (x i : Int), 0 ≤ x → ab_wt f v x i k = -5 ∨ (0 ≤ ab_wt f v x i k ∧ ab_wt f v x i k ≤ x + k)
  | 0, _, _, _ => Or.inl rfl
  | k + 1, x, i, h => by
    have h1 := ab_wt_r (f := f) (v := v) k (x + 1) (i - 1) (by omega)
    have h2 := ab_wt_r (f := f) (v := v) k (x + 1) i (by omega)
    unfold ab_wt
    split
    · split <;> omega
    · omega
theorem rg_were {l v i : Int} : ab_inR (ab_s_were X l v i) := by
  unfold ab_s_were
  have h1 := ab_hm_b (f := fun x => ab_DT (ab_ui (X 0) 2 x) l) (v := v) 101
  have h2 := ab_wt_r (f := fun x => ab_DT (ab_ui (X 0) 2 x) l) (v := v) 101 0 i (by omega)
  (repeat' split) <;> omega
theorem ab_nn_r {M : Int → Int → Int} {g : Int → Int} {free i : Int} : ∀ (k : Nat) (c : Int), 0 ≤ ab_nn M g free i c k ∧ ab_nn M g free i c k ≤ 100
  | 0, _ => ⟨Int.le_refl 0, show (0 : Int) ≤ 100 by decide⟩
  | k + 1, c => by
    have h := ab_nn_r (M := M) (g := g) (free := free) (i := i) k (c + 1)
    unfold ab_nn
    split
    · exact h
    · omega
theorem rg_van {l i : Int} (I : ab_XI X) : ab_inR (ab_s_van X l i) := by
  unfold ab_s_van
  by_cases c : 0 ≤ l ∧ l ≤ 5
  · have hw := ab_wd_eq c.1 (by omega)
    have hs := ab_st12 c.1 c.2
    have ok := ab_rd_ok (R := ab_START l) (C := ab_wd l) (M := ab_lw (X 0) l) (g := fun _ => 0) hs.1 hs.2 (fun r c _ _ _ _ => ab_AT_r I.1.1 _) (ab_wd l).toNat
    have h1 := ok.2.1
    have h2 := ok.2.2.1
    have h3 := ab_nn_r (M := (ab_lr (X 0) l).1) (g := (ab_lr (X 0) l).2.1) (free := ab_fc (ab_lr (X 0) l).2.1 0 (ab_wd l).toNat) (i := i) (ab_wd l).toNat 0
    rw [if_pos c]
    have h4 : 0 ≤ (ab_lr (X 0) l).2.2.1 := h1
    have h5 : (ab_lr (X 0) l).2.2.1 ≤ ab_START l := h2
    (repeat' split) <;> omega
  · rw [if_neg c]
    omega
theorem rg_feed {x : Int} (I : ab_XI X) : ab_inR (ab_s_feed X x) := by
  unfold ab_s_feed
  have := I.2.1
  (repeat' split) <;> omega
theorem ab_clt_m {T : Int → Int} : ∀ (l : List ab_TM) (c lv : Int) (sm : Int → Int), -3 ≤ lv → -3 ≤ (ab_clt T l c lv sm).1
  | [], c, lv, sm, h1 => h1
  | x :: r, c, lv, sm, h1 => by
    unfold ab_clt
    by_cases d : ab_lvt x.2.2 x.2.1 < 0 ∨ (0 < c ∧ ab_lvt x.2.2 x.2.1 ≠ lv)
    · rw [if_pos d]
      exact Int.le_refl _
    · rw [if_neg d]
      exact ab_clt_m r _ _ _ (by have := ab_lvt_r (g := x.2.2) (mc := x.2.1); omega)
theorem ab_ft_r {t : Int → Int} : ∀ (k i : Nat), ab_ft t i k = -1 ∨ (0 ≤ ab_ft t i k ∧ ab_ft t i k ≤ ((i + k : Nat) : Int))
  | 0, i => by
    unfold ab_ft
    split <;> omega
  | k + 1, i => by
    have := ab_ft_r (t := t) k (i + 1)
    unfold ab_ft
    split <;> omega
theorem rg_read {v : Int} (I : ab_XI X) : ab_inR (ab_s_read X v) := by
  unfold ab_s_read
  have h0 := I.2.1
  have h1 := ab_ft_r (t := X 6) (X 5 1).toNat 0
  have h2 := (ab_clt_r (T := ab_AT (X 0)) (ab_tls (X 6) (X 5 1) 60 0) 0 (-3) (fun _ => 0) (by decide) (fun _ => ⟨by decide, by decide⟩)).1
  have h3 := ab_clt_m (T := ab_AT (X 0)) (ab_tls (X 6) (X 5 1) 60 0) 0 (-3) (fun _ => 0) (by decide)
  have h4 : -3 ≤ (ab_rdr X).1 := h3
  have h5 : (ab_rdr X).1 ≤ 5 := h2
  have h6 : ab_rdf X = -1 ∨ (0 ≤ ab_rdf X ∧ ab_rdf X ≤ ((0 + (X 5 1).toNat : Nat) : Int)) := h1
  (repeat' split) <;> omega
theorem rg_become {v lv i : Int} : ab_inR (ab_s_become v lv i) := by
  unfold ab_s_become
  split <;> omega
theorem rg_level {v : Int} (I : ab_XI X) : ab_inR (ab_s_level X v) := by
  unfold ab_s_level
  by_cases c : ab_isV v
  · have := I.1.2.1 v c.1 (by omega)
    rw [if_pos c]
    omega
  · rw [if_neg c]
    omega
theorem ab_isB_7 {lv i : Int} (c : ab_isB lv i) : 0 ≤ i ∧ i < 7 := by
  have := ab_wd_eq c.1.1 (by omega)
  omega
theorem rg_coord {v i : Int} (I : ab_XI X) : ab_inR (ab_s_coord X v i) := by
  unfold ab_s_coord
  by_cases c : ab_isV v ∧ ab_isB (X 1 v) i
  · have h7 := ab_isB_7 c.2
    have := I.1.2.2.1 (7 * v + i) (by omega) (by omega)
    rw [if_pos c]
    omega
  · rw [if_neg c]
    omega
theorem rg_put {v i x : Int} (I : ab_XI X) : ab_inR (ab_s_put X v i x) := by
  unfold ab_s_put
  by_cases c : ab_isV v ∧ ab_isB (X 1 v) i
  · have h7 := ab_isB_7 c.2
    have := I.1.2.2.1 (7 * v + i) (by omega) (by omega)
    rw [if_pos c]
    split <;> omega
  · rw [if_neg c]
    omega
theorem rg_raise {v m : Int} : ab_inR (ab_s_raise X v m) := by
  unfold ab_s_raise
  (repeat' split) <;> omega
theorem rg_add {a b k : Int} (I : ab_XI X) : ab_inR (ab_s_add X a b k) := by
  unfold ab_s_add
  by_cases c : ab_isV a ∧ ab_isV b
  · have := I.1.2.1 a c.1.1 (by omega)
    rw [if_pos c]
    (repeat' split) <;> omega
  · rw [if_neg c]
    omega
theorem rg_prod {a b : Int} : ab_inR (ab_s_prod X a b) := by
  unfold ab_s_prod
  (repeat' split) <;> omega
theorem ab_lo_r {T f : Int → Int} {hg : Int} : ∀ (k : Nat) (m : Int), ab_lo T f hg m k = 0 ∨ ab_lo T f hg m k = 1
  | 0, _ => Or.inr rfl
  | k + 1, m => by
    have h := ab_lo_r (T := T) (f := f) (hg := hg) k (m + 1)
    unfold ab_lo
    split
    · exact h
    · exact Or.inl rfl
theorem rg_low {v : Int} : ab_inR (ab_s_low X v) := by
  unfold ab_s_low
  have := ab_lo_r (T := ab_AT (X 0)) (f := ab_cv X v) (hg := X 1 v) (X 1 v).toNat 1
  split <;> omega
theorem rg_plan {w v : Int} (I : ab_XI X) : ab_inR (ab_s_plan X w v) := by
  unfold ab_s_plan
  have := I.1.2.2.2.1
  (repeat' split) <;> omega
theorem rg_behind {v i : Int} (I : ab_XI X) : ab_inR (ab_s_behind X v i) := by
  unfold ab_s_behind
  by_cases c : ab_isV v
  · rw [if_pos c]
    have z : ab_zok (X 1 v, ab_cv X v) := ⟨I.1.2.1 v c.1 (by omega), fun i i0 i7 => I.1.2.2.1 (7 * v + i) (by omega) (by omega)⟩
    have ok := ab_rws_ok (X := X) z (X 5 0).toNat
    have h1 := ok.1
    by_cases c1 : i = -1
    · rw [if_pos c1]
      omega
    · rw [if_neg c1]
      by_cases c2 : ab_isB (ab_rws X (X 1 v, ab_cv X v) (X 5 0).toNat).1 i
      · have h7 := ab_isB_7 c2
        have := ok.2 i h7.1 h7.2
        rw [if_pos c2]
        omega
      · rw [if_neg c2]
        omega
  · rw [if_neg c]
    omega
theorem rg_write {v : Int} (I : ab_XI X) : ab_inR (ab_s_write X v) := by
  unfold ab_s_write
  by_cases c : ab_isV v
  · have h := ab_trms_94 (g := ab_cv X v) (lv := X 1 v) (I.1.2.1 v c.1 (by omega)) (fun i a b => I.1.2.2.1 (7 * v + i) (by omega) (by omega))
    have h2 := h.2
    rw [if_pos c]
    unfold ab_txw
    omega
  · rw [if_neg c]
    omega
theorem rg_paper {i : Int} (I : ab_XI X) : ab_inR (ab_s_paper X i) := by
  unfold ab_s_paper
  by_cases c : 0 ≤ i ∧ i ≤ X 5 2 - 1
  · have := I.2.2.2.2.1 i c.1 (by omega)
    rw [if_pos c]
    omega
  · rw [if_neg c]
    omega
theorem ab_jd_r {P : Int → Bool} : ∀ (k : Nat) (i : Int), 0 ≤ i → ab_jd P i k = -5 ∨ (0 ≤ ab_jd P i k ∧ ab_jd P i k ≤ i + k)
  | 0, _, _ => Or.inl rfl
  | k + 1, i, h => by
    have := ab_jd_r (P := P) k (i + 1) (by omega)
    unfold ab_jd
    split <;> omega
theorem rg_judge {l v : Int} (I : ab_XI X) : ab_inR (ab_s_judge X Y l v) := by
  unfold ab_s_judge
  by_cases c : ab_isL l ∧ ab_isV v
  · have h1 := I.2.2.2.2.2.2.1 l c.1.1 (by omega)
    have h2 := ab_jd_r (P := fun i => decide (Y (12 * l + i) = Int64.ofInt (if i < 7 then X 2 (7 * v + i) else 0))) (X 8 l).toNat 0 (by omega)
    rw [if_pos c]
    split <;> omega
  · rw [if_neg c]
    omega
theorem rg_list {l k : Int} : ab_inR (ab_s_list l k) := by
  unfold ab_s_list
  (repeat' split) <;> omega
theorem rg_lay {l i : Int} : ab_inR (ab_s_lay X l i) := by
  unfold ab_s_lay
  (repeat' split) <;> omega
theorem rg_image (I : ab_XI X) : ab_inR (X 0 0) := by
  have := I.1.1.1
  omega
theorem rg_undo (I : ab_XI X) : ab_inR (ab_s_undo X) := by
  unfold ab_s_undo
  by_cases c : X 5 3 = 0
  · rw [if_pos c]
    omega
  · have h := I.2.2.2.2.2.1
    have := (I.2.2.2.2.2.2.2 (by omega)).1.1
    rw [if_neg c]
    omega
theorem rg_count {w : Int} (I : ab_XI X) : ab_inR (ab_s_count X w) := by
  unfold ab_s_count
  have h0 := ab_fn_b (ab_cv X) 4
  have h1 := I.2.1
  have h2 := I.2.2.2.1
  have h3 := I.1.2.2.2.1
  (repeat' split) <;> omega
end RG
/-! ===== only the other object's cells have moved ===== -/
theorem ab_JC_fr {h h' : ab_H} {X : ab_X} {Y : Int → Int64} (he : ∀ a, a < 68 → h' a = h a) (J : ab_JC X Y h) : ab_JC X Y h' := by
  obtain ⟨j1, j2, j3, j4, j5, j6, j7, j8, j9⟩ := J
  exact ⟨(he 6 (by decide)).trans j1, ab_now_fr (fun a _ _ => he a (by omega)) j2, ab_kep_fr (fun a _ _ => he a (by omega)) j3, ab_lad_fr (fun a _ _ => he a (by omega)) j4, ab_swp_fr (fun a _ _ => he a (by omega)) j5, ab_tap_fr (fun a _ _ => he a (by omega)) j6, ab_pag_fr (fun a _ _ => he a (by omega)) j7, ab_scr_fr (fun a _ _ => he a (by omega)) j8, ab_lis_fr (fun a _ _ => he a (by omega)) j9⟩
theorem ab_JM_fr {h h' : ab_H} {X : ab_X} {Y : Int → Int64} (he : ∀ a, 67 < a → h' a = h a) (J : ab_JM X Y h) : ab_JM X Y h' := by
  obtain ⟨σ, hmo, hsc, hst, hp, hw⟩ := J
  exact ⟨σ, (he 68 (by decide)).trans hmo, hsc, ab_mst_fr (fun a _ _ => he a (by omega)) hst, ab_per_fr (fun a ha => he a (by omega)) hp, ab_wrk_fr (fun a _ _ => he a (by omega)) hw⟩
