/-! ===== what the banks keep ===== -/
section XI
variable {X : ab_X}
theorem xi_set {w v : Int} (I : ab_XI X) : ab_XI (ab_n_set X w v) := by
  unfold ab_n_set
  by_cases c : (0 ≤ w ∧ w ≤ 3) ∧ 0 ≤ v ∧ v ≤ (if w = 0 then 4 else 100)
  · rw [if_pos c]
    obtain ⟨⟨i1, i2⟩, i3⟩ := I
    refine ⟨⟨?_, i2⟩, i3⟩
    obtain ⟨⟨w0, w3⟩, v0, v1⟩ := c
    have vb : v ≤ 100 := by split at v1 <;> omega
    have v4 : w = 0 → v ≤ 4 := fun e => by rw [if_pos e] at v1; exact v1
    obtain ⟨⟨a0, a1⟩, ⟨b0, b1⟩, ⟨c0, c1⟩, d0, d1⟩ := i1
    show ab_lok (ab_ui (X 0) w v)
    have gen : ∀ (j b : Int), 0 ≤ X 0 j → X 0 j ≤ b → (j = w → v ≤ b) → 0 ≤ ab_ui (X 0) w v j ∧ ab_ui (X 0) w v j ≤ b := by
      intro j b h1 h2 h3
      by_cases e : j = w
      · rw [e, ab_ui_at]
        exact ⟨v0, h3 e⟩
      · rw [ab_ui_ne e]
        exact ⟨h1, h2⟩
    exact ⟨gen 0 4 a0 a1 (fun e => v4 e.symm), gen 1 100 b0 b1 (fun _ => vb), gen 2 100 c0 c1 (fun _ => vb), gen 3 100 d0 d1 (fun _ => vb)⟩
  · rw [if_neg c]
    exact I
theorem xi_feed {x : Int} (I : ab_XI X) : ab_XI (ab_n_feed X x) := by
  unfold ab_n_feed
  by_cases c : (1 ≤ x ∧ x ≤ 127) ∧ X 5 1 < 60
  · rw [if_pos c]
    obtain ⟨i1, i2, i3, i4⟩ := I
    refine ⟨i1, ?_, ?_, i4⟩
    · show 0 ≤ X 5 1 + 1 ∧ X 5 1 + 1 ≤ 60
      omega
    · intro i (h0 : 0 ≤ i) (h1 : i < X 5 1 + 1)
      show 1 ≤ ab_ui (X 6) (X 5 1) x i ∧ ab_ui (X 6) (X 5 1) x i ≤ 127
      by_cases e : i = X 5 1
      · rw [e, ab_ui_at]
        exact c.1
      · rw [ab_ui_ne e]
        exact i3 i h0 (by omega)
  · rw [if_neg c]
    exact I
theorem xi_sv {v lv : Int} {f : Int → Int} (I : ab_XI X) (hv : 0 ≤ v ∧ v ≤ 3) (hl : 0 ≤ lv ∧ lv ≤ 5) (hf : ∀ i, 0 ≤ f i ∧ f i ≤ 100) : ab_XI (ab_sv X v lv f) := by
  obtain ⟨⟨i1, i2, i3, i4⟩, i5⟩ := I
  refine ⟨⟨i1, ?_, ?_, i4⟩, i5⟩
  · intro w w0 w4
    show 0 ≤ ab_ui (X 1) v lv w ∧ ab_ui (X 1) v lv w ≤ 5
    by_cases e : w = v
    · rw [e, ab_ui_at]
      exact hl
    · rw [ab_ui_ne e]
      exact i2 w w0 w4
  · intro i h0 h1
    show 0 ≤ (if 7 * v ≤ i ∧ i < 7 * v + 7 then f (i - 7 * v) else X 2 i) ∧ (if 7 * v ≤ i ∧ i < 7 * v + 7 then f (i - 7 * v) else X 2 i) ≤ 100
    split
    · exact hf _
    · exact i3 i h0 h1
theorem xi_become {v lv i : Int} (I : ab_XI X) : ab_XI (ab_n_become X v lv i) := by
  unfold ab_n_become
  by_cases c : ab_isV v ∧ ab_isB lv i
  · rw [if_pos c]
    refine xi_sv I c.1 c.2.1 fun j => ?_
    unfold ab_un1
    split <;> omega
  · rw [if_neg c]
    exact I
theorem xi_put {v i x : Int} (I : ab_XI X) : ab_XI (ab_n_put X v i x) := by
  unfold ab_n_put
  by_cases c : (ab_isV v ∧ ab_isB (X 1 v) i) ∧ 0 ≤ x ∧ x ≤ 100
  · rw [if_pos c]
    obtain ⟨⟨i1, i2, i3, i4⟩, i5⟩ := I
    refine ⟨⟨i1, i2, ?_, i4⟩, i5⟩
    intro j h0 h1
    show 0 ≤ ab_ui (X 2) (7 * v + i) x j ∧ ab_ui (X 2) (7 * v + i) x j ≤ 100
    by_cases e : j = 7 * v + i
    · rw [e, ab_ui_at]
      exact c.2
    · rw [ab_ui_ne e]
      exact i3 j h0 h1
  · rw [if_neg c]
    exact I
theorem xi_raise {v m : Int} (I : ab_XI X) : ab_XI (ab_n_raise X v m) := by
  unfold ab_n_raise
  by_cases c : (ab_isV v ∧ -5 ≤ m ∧ m ≤ 5) ∧ 0 ≤ X 1 v - m ∧ X 1 v - m ≤ 5
  · rw [if_pos c]
    exact xi_sv I c.1.1 c.2 fun j => ab_mv_r
  · rw [if_neg c]
    exact I
theorem xi_add {a b k : Int} (I : ab_XI X) : ab_XI (ab_n_add X a b k) := by
  unfold ab_n_add
  by_cases c : (ab_isV a ∧ ab_isV b) ∧ (0 ≤ k ∧ k ≤ 100) ∧ X 1 a = X 1 b
  · rw [if_pos c]
    exact xi_sv I c.1.1 (I.1.2.1 a c.1.1.1 (by omega)) fun j => by omega
  · rw [if_neg c]
    exact I
theorem xi_plan {w v : Int} (I : ab_XI X) : ab_XI (ab_n_plan X w v) := by
  unfold ab_n_plan
  by_cases c0 : w = -1
  · rw [if_pos c0]
    obtain ⟨⟨i1, i2, i3, i4, i5⟩, i6⟩ := I
    refine ⟨⟨i1, i2, i3, ?_, ?_⟩, i6⟩
    · show (0 : Int) ≤ 0 ∧ (0 : Int) ≤ 8
      omega
    · intro i h0 (h1 : i < 0)
      omega
  · rw [if_neg c0]
    by_cases c : ((0 ≤ w ∧ w ≤ 2) ∧ ab_rok w v) ∧ X 5 0 < 8
    · rw [if_pos c]
      obtain ⟨⟨i1, i2, i3, i4, i5⟩, i6⟩ := I
      refine ⟨⟨i1, i2, i3, ?_, ?_⟩, i6⟩
      · show 0 ≤ X 5 0 + 1 ∧ X 5 0 + 1 ≤ 8
        omega
      · intro i (h0 : 0 ≤ i) (h1 : i < X 5 0 + 1)
        show ab_rok (ab_ui (X 3) (X 5 0) w i) (ab_ui (X 4) (X 5 0) v i)
        by_cases e : i = X 5 0
        · rw [e, ab_ui_at, ab_ui_at]
          exact c.1.2
        · rw [ab_ui_ne e, ab_ui_ne e]
          exact i5 i h0 (by omega)
    · rw [if_neg c]
      exact I
theorem xi_list {l k : Int} (I : ab_XI X) : ab_XI (ab_n_list X l k) := by
  unfold ab_n_list
  by_cases c : ab_isL l ∧ 0 ≤ k ∧ k ≤ 12
  · rw [if_pos c]
    obtain ⟨i1, i2, i3, i4, i5, i6, i7, i8⟩ := I
    refine ⟨i1, i2, i3, i4, i5, i6, ?_, i8⟩
    intro j j0 j1
    show -1 ≤ ab_ui (X 8) l k j ∧ ab_ui (X 8) l k j ≤ 12
    by_cases e : j = l
    · rw [e, ab_ui_at]
      omega
    · rw [ab_ui_ne e]
      exact i7 j j0 j1
  · rw [if_neg c]
    exact I
theorem xi_image (I : ab_XI X) : ab_XI (ab_n_image X) := by
  obtain ⟨i1, i2, i3, i4, i5, i6, i7, i8⟩ := I
  exact ⟨i1, i2, i3, i4, i5, Or.inr rfl, i7, fun _ => i1⟩
theorem xi_undo (I : ab_XI X) : ab_XI (ab_n_undo X) := by
  unfold ab_n_undo
  by_cases c : X 5 3 = 0
  · rw [if_pos c]
    exact I
  · rw [if_neg c]
    obtain ⟨i1, i2, i3, i4, i5, i6, i7, i8⟩ := I
    have h1 : X 5 3 = 1 := by omega
    exact ⟨i8 h1, i2, i3, i4, i5, i6, i7, i8⟩
theorem ab_clt_r {T : Int → Int} : ∀ (l : List ab_TM) (c lv : Int) (sm : Int → Int), lv ≤ 5 → (∀ i, 0 ≤ sm i ∧ sm i ≤ 100) → (ab_clt T l c lv sm).1 ≤ 5 ∧ ∀ i, 0 ≤ (ab_clt T l c lv sm).2 i ∧ (ab_clt T l c lv sm).2 i ≤ 100
  | [], c, lv, sm, h1, h2 => ⟨h1, h2⟩
  | x :: r, c, lv, sm, h1, h2 => by
    unfold ab_clt
    by_cases d : ab_lvt x.2.2 x.2.1 < 0 ∨ (0 < c ∧ ab_lvt x.2.2 x.2.1 ≠ lv)
    · rw [if_pos d]
      exact ⟨show (-3 : Int) ≤ 5 by decide, h2⟩
    · rw [if_neg d]
      refine ab_clt_r r _ _ _ ab_lvt_r.2 fun i => ab_sma_r ?_
      split
      · show (0 : Int) ≤ 0 ∧ (0 : Int) ≤ 100
        decide
      · exact h2 i
theorem xi_read {v : Int} (I : ab_XI X) : ab_XI (ab_n_read X v) := by
  unfold ab_n_read
  by_cases c : ab_isV v
  · rw [if_pos c]
    have J : ab_XI (if ab_rdf X < 0 ∧ 0 ≤ (ab_rdr X).1 then ab_sv X v (ab_rdr X).1 (ab_rdr X).2 else X) ∧ (if ab_rdf X < 0 ∧ 0 ≤ (ab_rdr X).1 then ab_sv X v (ab_rdr X).1 (ab_rdr X).2 else X) 5 = X 5 := by
      by_cases d : ab_rdf X < 0 ∧ 0 ≤ (ab_rdr X).1
      · rw [if_pos d]
        have := ab_clt_r (T := ab_AT (X 0)) (ab_tls (X 6) (X 5 1) 60 0) 0 (-3) (fun _ => 0) (by decide) (fun _ => ⟨by decide, by decide⟩)
        exact ⟨xi_sv I c ⟨d.2, this.1⟩ this.2, ab_sv_o (by decide) (by decide)⟩
      · rw [if_neg d]
        exact ⟨I, rfl⟩
    revert J
    generalize (if ab_rdf X < 0 ∧ 0 ≤ (ab_rdr X).1 then ab_sv X v (ab_rdr X).1 (ab_rdr X).2 else X) = Z
    intro ⟨J, e⟩
    rw [← e]
    obtain ⟨i1, i2, i3, i4⟩ := J
    refine ⟨i1, ?_, ?_, i4⟩
    · show (0 : Int) ≤ 0 ∧ (0 : Int) ≤ 60
      omega
    · intro i h0 (h1 : i < 0)
      omega
  · rw [if_neg c]
    exact I
theorem xi_write {v : Int} (I : ab_XI X) : ab_XI (ab_n_write X v) := by
  unfold ab_n_write
  by_cases c : ab_isV v
  · rw [if_pos c]
    obtain ⟨i1, i2, i3, i4, i5, i6⟩ := I
    have hw : ((ab_txw X v).length : Int) ≤ 94 ∧ ∀ b ∈ ab_txw X v, 0 ≤ b ∧ b ≤ 127 := by
      have h := ab_trms_94 (g := ab_cv X v) (lv := X 1 v) (i1.2.1 v c.1 (by omega)) (fun i a b => i1.2.2.1 (7 * v + i) (by omega) (by omega))
      refine ⟨?_, fun b hb => ?_⟩
      · have := h.2
        show ((ab_trms (ab_cv X v) (ab_START (X 1 v)) (ab_wd (X 1 v)).toNat).length : Int) ≤ 94
        omega
      · have := h.1 b hb
        omega
    refine ⟨i1, i2, i3, ?_, ?_, i6⟩
    · show 0 ≤ ((ab_txw X v).length : Int) ∧ ((ab_txw X v).length : Int) ≤ 94
      omega
    · intro i (h0 : 0 ≤ i) (h1 : i < ((ab_txw X v).length : Int))
      show 0 ≤ (ab_txw X v).getD i.toNat 0 ∧ (ab_txw X v).getD i.toNat 0 ≤ 127
      have hl : i.toNat < (ab_txw X v).length := by omega
      rw [List.getD_eq_getElem?_getD, List.getElem?_eq_getElem hl]
      exact hw.2 _ (List.getElem_mem hl)
  · rw [if_neg c]
    exact I
end XI
