/-! ===== the start in the real machine ===== -/
theorem ab_eqi {args : Array Value} {s : State} {t : Term} {z : Int32} (h : (Cond.eq t (.int z)).before args s = true) : t.eval args s none [] s = some (.int z) := by
  cases hv : t.eval args s none [] s with
  | none => simp [Cond.before, Cond.holds, Cond.value, hv] at h
  | some w =>
    have hz : (Term.int z).eval args s none [] s = some (.int z) := rfl
    simp only [Cond.before, Cond.holds, Cond.value, hv, hz] at h
    cases w <;> simp_all
/-- a static row of ints -/
theorem ab_srow {args : Array Value} {s : State} {tm : Term} {N : Nat} {l : List Int} (hN : N ≤ 4096) (h1 : (Cond.arrayOf tm .int).before args s = true) (h2 : (Cond.eq (.length tm) (.int (Int32.ofInt (N : Int)))).before args s = true)
    (h3 : ∀ j : Nat, j < N → (Cond.eq (.elem tm (.int (Int32.ofInt (j : Int)))) (.int (Int32.ofInt (ab_tb l (j : Int))))).before args s = true) :
    ∃ t, tm.eval args s none [] s = some (.ref t) ∧ t < s.heap.size ∧ va_X t N (fun j => Int32.ofInt (ab_tb l (j : Int))) s s.heap := by
  obtain ⟨t, cell, e1, e2, e3⟩ := Term.length_spec (ab_eqi h2)
  obtain ⟨c1, c2, -, -⟩ := State.arrayAt?_spec e2
  have hof := Cond.arrayOf_spec h1 e1 c1
  have hel : ∀ j : Nat, j < N → cell.slots[j]? = some (.int (Int32.ofInt (ab_tb l (j : Int)))) := by
    intro j hj
    obtain ⟨a, k, cell', f1, f2, f3, f4, f5⟩ := Term.elem_spec (ab_eqi (h3 j hj))
    cases e1.symm.trans f1
    cases e2.symm.trans f3
    have f2' : (some (Value.int (Int32.ofInt (j : Int))) : Option Value) = some (.int k) := f2
    cases f2'
    rw [ab_icl (by omega) (by omega)] at f5
    exact f5
  have hsz : cell.slots.size = N := by
    have hlt : cell.slots.size < 2147483648 := by
      have e4 := ab_eqi h2
      simp only [Term.eval, e1, e2, Option.bind_eq_bind, Option.bind_some] at e4
      by_cases hlt : cell.slots.size < 2147483648
      · exact hlt
      · simp [hlt] at e4
    have e5 : Int32.ofInt (N : Int) = cell.slots.size.toInt32 := by
      exact Value.int.inj e3
    have e6 : Int32.ofInt (N : Int) = Int32.ofInt (cell.slots.size : Int) := e5
    have := (ab_ieq (x := (N : Int)) (y := (cell.slots.size : Int)) ⟨by omega, by omega⟩ ⟨by omega, by omega⟩).mp e6
    omega
  exact ⟨t, e1, (Array.getElem?_eq_some_iff.mp c1).1, cell, c1, hof.1, c2, hsz, hel⟩
theorem ab_in13 : ∀ k : Fin 13, ∀ w ∈ u_ws (vwCl[k.val]'k.isLt).1 (vwCl[k.val]'k.isLt).2.1 (vwCl[k.val]'k.isLt).2.2, w ∈ lw_tbl := by decide +kernel
theorem ab_is13 : ∀ k : Fin 13, Cond.instantiable (vwCl[k.val]'k.isLt).1 (vwCl[k.val]'k.isLt).2.2 ∈ lw_tbl := by decide +kernel
theorem ab_ex_cl {args : Array Value} {s : State} (hts : ∀ w ∈ lw_tbl, w.before args s = true) : ∀ k : Nat, ∃ z : ClassId × (Nat → Nat), ∀ q : vw_C, vwCl[k]? = some q → u_Kn s q.1 q.2.1 q.2.2 z.1 z.2 := by
  intro k
  by_cases hk : k < 13
  · obtain ⟨cC, iS, h⟩ := u_known (n := (vwCl[k]'hk).2.2) hts (ab_in13 ⟨k, hk⟩) (hts _ (ab_is13 ⟨k, hk⟩))
    refine ⟨(cC, iS), fun q hq => ?_⟩
    rw [List.getElem?_eq_getElem hk] at hq
    cases hq
    exact h
  · refine ⟨(0, fun _ => 0), fun q hq => ?_⟩
    have : 13 ≤ k := by omega
    rw [List.getElem?_eq_none (show vwCl.length ≤ k from this)] at hq
    cases hq
theorem ab_nwN {args : Array Value} {s : State} (hts : ∀ w ∈ lw_tbl, w.before args s = true) : ∀ w ∈ lw_tbl, ab_isN w = true → va_Nw w s := by
  intro w hw hn
  have h := hts w hw
  unfold ab_isN at hn
  split at hn
  · exact va_Nw.of rfl h
  · exact va_Nw.of rfl h
  · exact va_Nw.of rfl h
  · exact h
  · cases hn
theorem ab_ex_ar {args : Array Value} {s : State} (hts : ∀ w ∈ lw_tbl, w.before args s = true) : ∀ t : Nat, ∃ cA : ClassId, ArrOfT s cA (ab_ety t) ∧ va_RA s cA (ab_ety t) := by
  have prim : ∀ ty : FieldType, (∀ C, ty ≠ .object C) → Cond.arrayClass ty ∈ lw_tbl → ∃ cA : ClassId, ArrOfT s cA ty ∧ va_RA s cA ty := by
    intro ty hty hw
    obtain ⟨c, k, cc, h1, h2, h3⟩ := Cond.arrayClass_spec (hts _ hw)
    refine ⟨c, fun n z => ⟨fun q h => (by cases h), k, h2, cc, h3⟩, ?_⟩
    cases ty with
    | object C => exact absurd rfl (hty C)
    | _ => exact h1
  have refs : ∀ (ty : FieldType) (nm : String), ((∃ C, ty = .object C ∧ nm = C) ∨ (∃ t, ty = .array t ∧ nm = (FieldType.array t).toString)) → Cond.arrayOver ty ∈ lw_tbl → ∃ cA : ClassId, ArrOfT s cA ty ∧ va_RA s cA ty := by
    intro ty nm hty hw
    obtain ⟨comp, c, k, h1, -, h3, h4, h5⟩ := ab_AOs hty (ab_nwN hts _ hw rfl)
    refine ⟨c, fun n z => ⟨fun q h => (by cases h), k, h3, comp, h4⟩, ?_⟩
    rcases hty with ⟨C, rfl, rfl⟩ | ⟨t, rfl, rfl⟩
    · exact ⟨k, comp, h3, h4, h1, h5⟩
    · exact h5
  intro t
  match t with
  | 0 => exact prim .int (fun _ h => by cases h) ab_acI
  | 1 => exact prim .byte (fun _ h => by cases h) ab_acB
  | 2 => exact prim .boolean (fun _ h => by cases h) ab_acZ
  | 3 => exact prim .long (fun _ h => by cases h) ab_acJ
  | 4 => exact refs _ _ (Or.inl ⟨_, rfl, rfl⟩) ab_an_4_15.2
  | 5 => exact refs _ _ (Or.inl ⟨_, rfl, rfl⟩) ab_an_3_9.2
  | _ + 6 => exact refs _ _ (Or.inr ⟨_, rfl, rfl⟩) ab_aoJ
theorem ab_sw1 : ∀ j : Fin 7, Cond.eq (.elem (.static "LevelLadders" "START" "[I") (.int (Int32.ofInt (j.val : Int)))) (.int (Int32.ofInt (ab_START (j.val : Int)))) ∈ flatC (Jvm.Cond.and given_1 narrow_1) := by decide +kernel
theorem ab_sw2 : ∀ j : Fin 19, Cond.eq (.elem (.static "LevelLadders" "LENGTH" "[I") (.int (Int32.ofInt (j.val : Int)))) (.int (Int32.ofInt (ab_LENGTH (j.val : Int)))) ∈ flatC (Jvm.Cond.and given_1 narrow_1) := by decide +kernel
theorem ab_sw3 : ∀ j : Fin 19, Cond.eq (.elem (.static "LevelLadders" "REST" "[I") (.int (Int32.ofInt (j.val : Int)))) (.int (Int32.ofInt (ab_REST (j.val : Int)))) ∈ flatC (Jvm.Cond.and given_1 narrow_1) := by decide +kernel
theorem ab_sw4 : ∀ j : Fin 19, Cond.eq (.elem (.static "LevelLadders" "FIRST" "[I") (.int (Int32.ofInt (j.val : Int)))) (.int (Int32.ofInt (ab_FIRST (j.val : Int)))) ∈ flatC (Jvm.Cond.and given_1 narrow_1) := by decide +kernel
theorem ab_sw5 : ∀ j : Fin 6, Cond.eq (.elem (.static "LevelLadders$Sweep" "DEGREE" "[I") (.int (Int32.ofInt (j.val : Int)))) (.int (Int32.ofInt (ab_DEGREE (j.val : Int)))) ∈ flatC (Jvm.Cond.and given_1 narrow_1) := by decide +kernel
/-- the statics: where they lie -/
theorem ab_ex_st {args : Array Value} {s : State} (hts : ∀ w ∈ lw_tbl, w.before args s = true) (hgv : (Jvm.Cond.and given_1 narrow_1).before args s = true) : ∀ i : Nat, 1 ≤ i → i < 6 → ∃ t, t < s.heap.size ∧ va_X t (ab_st (0, fun _ => 0) i).1 (fun j => Int32.ofInt ((ab_st (0, fun _ => 0) i).2 (j : Int))) s s.heap ∧ va_Z (ab_stn i).1 (ab_stn i).2.1 (ab_stn i).2.2 (.ref t) (fun q => s.heap.size ≤ q) s s.heap := by
  have hs := flat_of_before _ hgv
  have hA : ∀ a : Nat, a < s.heap.size → ¬ (fun q : Nat => s.heap.size ≤ q) a := fun a ha => Nat.not_le.mpr ha
  intro i h1 h6
  have hi : i = 1 ∨ i = 2 ∨ i = 3 ∨ i = 4 ∨ i = 5 := by omega
  rcases hi with rfl | rfl | rfl | rfl | rfl
  · obtain ⟨t, e1, e2, e3⟩ := ab_srow (N := 7) (l := [0, 1, 2, 4, 7, 12, 19]) (by decide) (hs (.arrayOf (.static "LevelLadders" "START" "[I") .int) (by decide +kernel)) (hs _ (by decide +kernel)) (fun j hj => hs _ (ab_sw1 ⟨j, hj⟩))
    exact ⟨t, e2, e3, va_Zref (hts (.laysStatic "LevelLadders" "START" "[I") (by decide +kernel)) (hts (.initialized "LevelLadders") (by decide +kernel)) e1 hA⟩
  · obtain ⟨t, e1, e2, e3⟩ := ab_srow (N := 19) (l := [0, 1, 1, 2, 1, 2, 3, 1, 2, 2, 3, 4, 1, 2, 2, 3, 3, 4, 5]) (by decide) (hs (.arrayOf (.static "LevelLadders" "LENGTH" "[I") .int) (by decide +kernel)) (hs _ (by decide +kernel)) (fun j hj => hs _ (ab_sw2 ⟨j, hj⟩))
    exact ⟨t, e2, e3, va_Zref (hts (.laysStatic "LevelLadders" "LENGTH" "[I") (by decide +kernel)) (hts (.initialized "LevelLadders") (by decide +kernel)) e1 hA⟩
  · obtain ⟨t, e1, e2, e3⟩ := ab_srow (N := 19) (l := [0, 0, 0, 1, 0, 1, 3, 0, 1, 2, 3, 6, 0, 1, 2, 3, 5, 6, 11]) (by decide) (hs (.arrayOf (.static "LevelLadders" "REST" "[I") .int) (by decide +kernel)) (hs _ (by decide +kernel)) (fun j hj => hs _ (ab_sw3 ⟨j, hj⟩))
    exact ⟨t, e2, e3, va_Zref (hts (.laysStatic "LevelLadders" "REST" "[I") (by decide +kernel)) (hts (.initialized "LevelLadders") (by decide +kernel)) e1 hA⟩
  · obtain ⟨t, e1, e2, e3⟩ := ab_srow (N := 19) (l := [0, 1, 2, 1, 3, 2, 1, 4, 3, 2, 2, 1, 5, 4, 3, 3, 2, 2, 1]) (by decide) (hs (.arrayOf (.static "LevelLadders" "FIRST" "[I") .int) (by decide +kernel)) (hs _ (by decide +kernel)) (fun j hj => hs _ (ab_sw4 ⟨j, hj⟩))
    exact ⟨t, e2, e3, va_Zref (hts (.laysStatic "LevelLadders" "FIRST" "[I") (by decide +kernel)) (hts (.initialized "LevelLadders") (by decide +kernel)) e1 hA⟩
  · obtain ⟨t, e1, e2, e3⟩ := ab_srow (N := 6) (l := [0, 1, 3, 6, 12, 20]) (by decide) (hs (.arrayOf (.static "LevelLadders$Sweep" "DEGREE" "[I") .int) (by decide +kernel)) (hs _ (by decide +kernel)) (fun j hj => hs _ (ab_sw5 ⟨j, hj⟩))
    exact ⟨t, e2, e3, va_Zref (hts (.laysStatic "LevelLadders$Sweep" "DEGREE" "[I") (by decide +kernel)) (hts (.initialized "LevelLadders$Sweep") (by decide +kernel)) e1 hA⟩
