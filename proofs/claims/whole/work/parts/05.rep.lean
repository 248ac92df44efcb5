/-! ===== the plain machine in the real one: what a heap holds, what a frame holds ===== -/
/-- where the new cells begin; classes and places of fields; array classes; the statics' and the script's cells; the script -/
abbrev ab_E : Type := Nat × va_G × (Nat → ClassId) × (Nat → Nat) × (Nat × (Int → Int))
def ab_ad (E : ab_E) (i : Nat) : Nat := if i < 6 then E.2.2.2.1 i else E.1 + (i - 6)
def ab_rv (E : ab_E) (v : ab_V) : Value := match v with
  | .inl x => .int (Int32.ofInt x)
  | .inr (.inl x) => .long x
  | .inr (.inr none) => .null
  | .inr (.inr (some a)) => .ref (ab_ad E a)
def ab_cell (E : ab_E) (a : Nat) (c : ab_C) (H : Heap) : Prop := match c with
  | .inl (ci, fs) => ∃ (C : String) (T : u_T) (N : Nat), vwCl[ci]? = some (C, T, N) ∧ fs.length = N ∧ t_OB (ab_ad E a) (E.2.1.1 ci) N (E.2.1.2 ci) H (vp_V (fs.map (ab_rv E)))
  | .inr (.inl (t, m, f)) => t ≤ 2 ∧ m ≤ 4096 ∧ H[ab_ad E a]? = some (arrV (E.2.2.1 t) m (fun j => .int (Int32.ofInt (f j))))
  | .inr (.inr (.inl (m, f))) => m ≤ 4096 ∧ H[ab_ad E a]? = some (arrV (E.2.2.1 3) m (fun j => .long (f j)))
  | .inr (.inr (.inr (t, m, f))) => 4 ≤ t ∧ t ≤ 6 ∧ m ≤ 4096 ∧ H[ab_ad E a]? = some (arrV (E.2.2.1 t) m (fun j => ab_rv E (vo (f j))))
def ab_Rep (E : ab_E) (h : ab_H) (n : Nat) (H : Heap) : Prop := H.size = E.1 + (n - 6) ∧ 6 ≤ n ∧ (∀ i, i < 6 → h i = some (.inr (.inl (0, (ab_st E.2.2.2.2 i).1, (ab_st E.2.2.2.2 i).2)))) ∧ ∀ a c, 6 ≤ a → h a = some c → a < n ∧ ab_cell E a c H
def ab_LR (E : ab_E) (nL : Nat) (ls : Array Slot) (L : ab_L) : Prop := ls.size = nL ∧ lv_wf ls ∧ L.length = nL ∧ ∀ (k : Nat) (v : ab_V), L[k]? = some (some v) → ls[k]? = some (Slot.val (ab_rv E v))
def ab_T : List Cond := lw_tbl.filter goodWord
def ab_tys (E : ab_E) : List (ClassId × FieldType) := (List.range 7).map fun t => (E.2.2.1 t, ab_ety t)
def ab_isN (w : Cond) : Bool := match w with
  | .fieldLinkNest .. => true
  | .methodLinkNest .. => true
  | .castable .. => true
  | .arrayOver .. => true
  | _ => false
def ab_Kn (E : ab_E) (U : State) : Prop := va_K E.2.1 vwCl (ab_tys E) U ∧ E.1 ≤ U.heap.size ∧ (∀ w ∈ lw_tbl, ab_isN w = true → va_Nw w U) ∧
  (∀ i, i < 6 → E.2.2.2.1 i < E.1 ∧ (ab_st E.2.2.2.2 i).1 ≤ 4096 ∧ va_X (E.2.2.2.1 i) (ab_st E.2.2.2.2 i).1 (fun j => Int32.ofInt ((ab_st E.2.2.2.2 i).2 j)) U U.heap) ∧
  ∀ i, 1 ≤ i → i < 6 → va_Z (ab_stn i).1 (ab_stn i).2.1 (ab_stn i).2.2 (.ref (E.2.2.2.1 i)) (fun q => E.1 ≤ q) U U.heap
def ab_cx (E : ab_E) (k : Nat) (p : Program) (R : Room) (s : State) (m : MethodId) (args : Array Value) (meth : Method) (c : Code) : Prop :=
  p.tables.exec = Jvm.exec ∧ c.code = ab_code k ∧ meth.sig.returnType = ab_ret k ∧ meth.locks = false ∧ c.maxLocals = ab_maxL k ∧ s.vm.findClass (ab_own k) = some m.cls ∧ (∀ w ∈ ab_T, w.before args s = true) ∧ meth.name = (ab_nm k).name ∧ ab_Kn E s ∧
  ab_dep k ≤ R.frames ∧ 38 * ab_dep k ≤ R.locals ∧ (ab_cost k).1 ≤ R.cells ∧ (ab_cost k).2 ≤ R.slots
def ab_Qc (E : ab_E) (Q : ab_Q) : Array Value → State → Outcome → State → Prop := fun _ st o t => (∃ (r : Option ab_V) (h : ab_H) (n : Nat), o = .returned (r.map (ab_rv E)) ∧ Q r h n ∧ ab_Rep E h n t.heap) ∧ va_F (fun q => E.1 ≤ q) st t
/-- what the judgement means in the real machine -/
def ab_SW (E : ab_E) : ab_P := fun k pc L S h n u Q => ∀ (p : Program) (l : Launch) (e : Env) (R : Room) (s : State) (m : MethodId) (args : Array Value) (below : List Frame) (meth : Method) (c : Code), ab_cx E k p R s m args meth c →
  ∀ (H : Heap) (locs : List Loc) (ls : Array Slot), ab_Rep E h n H → va_S (fun q => E.1 ≤ q) s.heap H locs → ab_LR E (ab_maxL k) ls L →
    W p l e R s m args below meth c H locs u.1 u.2 (MQ below (ab_Qc E Q) args s (ab_cost k).1 (ab_cost k).2 (fun q => E.1 ≤ q)) (F0 m pc ls (S.map (ab_rv E)))
/-! numbers -/
theorem ab_bm {x : Int} (h : ab_inR x) : x.bmod 4294967296 = x := Int.bmod_eq_of_le (by omega) (by omega)
theorem ab_ti {x : Int} (h : ab_inR x) : (Int32.ofInt x).toInt = x := by
  rw [Int32.toInt_ofInt]; exact ab_bm h
theorem ab_ieq {x y : Int} (hx : ab_inR x) (hy : ab_inR y) : Int32.ofInt x = Int32.ofInt y ↔ x = y := by
  rw [← Int32.toInt_inj, ab_ti hx, ab_ti hy]
theorem ab_ilt {x y : Int} (hx : ab_inR x) (hy : ab_inR y) : Int32.ofInt x < Int32.ofInt y ↔ x < y := by
  rw [Int32.lt_iff_toInt_lt, ab_ti hx, ab_ti hy]
theorem ab_ile {x y : Int} (hx : ab_inR x) (hy : ab_inR y) : Int32.ofInt x ≤ Int32.ofInt y ↔ x ≤ y := by
  rw [Int32.le_iff_toInt_le, ab_ti hx, ab_ti hy]
theorem ab_icl {x : Int} (h0 : 0 ≤ x) (h : x < 2147483648) : (Int32.ofInt x).toNatClampNeg = x.toNat := by
  show (Int32.ofInt x).toInt.toNat = _
  rw [ab_ti ⟨by omega, h⟩]
theorem ab_iin {x : Int} {m : Nat} (h0 : 0 ≤ x) (h : x < (m : Int)) (hm : m ≤ 4096) : ¬ (Int32.ofInt x < 0 ∨ m ≤ (Int32.ofInt x).toNatClampNeg) := by
  rw [ab_icl h0 (by omega), show (0 : Int32) = Int32.ofInt 0 from rfl, ab_ilt ⟨by omega, by omega⟩ ⟨by omega, by omega⟩]
  omega
theorem ab_i0 {x : Int} (h : ab_inR x) : Int32.ofInt x = 0 ↔ x = 0 := ab_ieq (y := 0) h ⟨by omega, by omega⟩
theorem ab_idiv {x y : Int} (hx : ab_inR x) (h0 : 0 < y) (hy : ab_inR y) : Int32.ofInt x / Int32.ofInt y = Int32.ofInt (x.tdiv y) := by
  rw [← Int32.toInt_inj, Int32.toInt_div, ab_ti hx, ab_ti hy, Int32.toInt_ofInt]
theorem ab_irem {x y : Int} (hx : ab_inR x) (h0 : 0 < y) (hy : ab_inR y) : Int32.ofInt x - Int32.ofInt x / Int32.ofInt y * Int32.ofInt y = Int32.ofInt (x.tmod y) := by
  rw [ab_idiv hx h0 hy, ← Int32.ofInt_mul, ← Int32.ofInt_sub, Int.tmod_def, Int.mul_comm]
/-! words -/
theorem ab_tin {w : Cond} (h : w ∈ lw_tbl) (hg : goodWord w = true) : w ∈ ab_T := List.mem_filter.mpr ⟨h, hg⟩
theorem ab_good {ws : List Cond} (h : ∀ w ∈ ws, w ∈ ab_T) : GoodIn ab_T ws := fun w hw => ⟨h w hw, good_of_word (List.mem_filter.mp (h w hw)).2⟩
theorem ab_ws (j : Nat) (h : Cond.code (ab_nm j) (ab_code j) (ab_maxL j) (ab_ret j) ∈ lw_tbl) : GoodIn ab_T (Cond.code (ab_nm j) (ab_code j) (ab_maxL j) (ab_ret j) :: ab_T) := ab_good fun w hw => by
  rcases List.mem_cons.mp hw with rfl | hw
  · exact ab_tin h rfl
  · exact hw
/-! heaps -/
theorem ab_ad_ge {E : ab_E} {a : Nat} (h : 6 ≤ a) : ab_ad E a = E.1 + (a - 6) := if_neg (by omega)
theorem ab_ad_ne {E : ab_E} {a b : Nat} (ha : 6 ≤ a) (hb : 6 ≤ b) (h : a ≠ b) : ab_ad E a ≠ ab_ad E b := by
  rw [ab_ad_ge ha, ab_ad_ge hb]; omega
theorem ab_cell_kept {E : ab_E} {a : Nat} {c : ab_C} {H H1 : Heap} (hq : H1[ab_ad E a]? = H[ab_ad E a]?) (h : ab_cell E a c H) : ab_cell E a c H1 := by
  rcases c with ⟨ci, fs⟩ | ⟨t, m, f⟩ | ⟨m, f⟩ | ⟨t, m, f⟩
  · obtain ⟨C, T, N, h1, h2, h3⟩ := h
    exact ⟨C, T, N, h1, h2, h3.kept hq⟩
  · exact ⟨h.1, h.2.1, hq.trans h.2.2⟩
  · exact ⟨h.1, hq.trans h.2⟩
  · exact ⟨h.1, h.2.1, h.2.2.1, hq.trans h.2.2.2⟩
theorem ab_Rep_set {E : ab_E} {h : ab_H} {n a : Nat} {c : ab_C} {H H1 : Heap} (hR : ab_Rep E h n H) (ha : 6 ≤ a) (han : a < n) (z : H1.size = H.size) (oq : ∀ q, q ≠ ab_ad E a → H1[q]? = H[q]?) (hc : ab_cell E a c H1) : ab_Rep E (ab_hs h a c) n H1 := by
  obtain ⟨h1, h2, h3, h4⟩ := hR
  refine ⟨z.trans h1, h2, fun i hi => ?_, fun b d hb hd => ?_⟩
  · show (if i = a then some c else h i) = _
    rw [if_neg (by omega)]; exact h3 i hi
  · by_cases e : b = a
    · subst e
      have hd' : (if b = b then some c else h b) = some d := hd
      rw [if_pos rfl] at hd'
      cases hd'
      exact ⟨han, hc⟩
    · have hd' : (if b = a then some c else h b) = some d := hd
      rw [if_neg e] at hd'
      obtain ⟨g1, g2⟩ := h4 b d hb hd'
      exact ⟨g1, ab_cell_kept (oq _ (ab_ad_ne hb ha e)) g2⟩
theorem ab_Rep_push {E : ab_E} {h : ab_H} {n : Nat} {c : ab_C} {H H1 : Heap} (hR : ab_Rep E h n H) (z : H1.size = H.size + 1) (oq : ∀ q, q < H.size → H1[q]? = H[q]?) (hc : ab_cell E n c H1) : ab_Rep E (ab_hs h n c) (n + 1) H1 := by
  obtain ⟨h1, h2, h3, h4⟩ := hR
  refine ⟨by rw [z, h1]; omega, by omega, fun i hi => ?_, fun b d hb hd => ?_⟩
  · show (if i = n then some c else h i) = _
    rw [if_neg (by omega)]; exact h3 i hi
  · by_cases e : b = n
    · subst e
      have hd' : (if b = b then some c else h b) = some d := hd
      rw [if_pos rfl] at hd'
      cases hd'
      exact ⟨by omega, hc⟩
    · have hd' : (if b = n then some c else h b) = some d := hd
      rw [if_neg e] at hd'
      obtain ⟨g1, g2⟩ := h4 b d hb hd'
      exact ⟨by omega, ab_cell_kept (oq _ (by rw [ab_ad_ge hb, h1]; omega)) g2⟩
theorem ab_next {E : ab_E} {h : ab_H} {n : Nat} {H : Heap} (hR : ab_Rep E h n H) : ab_ad E n = H.size := by
  rw [ab_ad_ge hR.2.1, hR.1]
/-! frames -/
theorem ab_LR_set {E : ab_E} {nL : Nat} {ls : Array Slot} {L : ab_L} {j : Nat} {v : ab_V} (hL : ab_LR E nL ls L) (hj : j < L.length) (hn : ab_nl L = true) (hv : ab_cat v = 1) :
    ∃ (lv : List (Nat × Value)), lv_has ls nL lv ∧ (∀ ls', lv_has ls' nL ((j, ab_rv E v) :: lv.filter (fun q => !(q.1 == j) && !(q.1 + 1 == j && q.2.category == 2))) → ab_LR E nL ls' (L.set j (some v))) := by
  obtain ⟨h1, h2, h3, h4⟩ := hL
  refine ⟨(List.range nL).filterMap (fun k => (L[k]?).join.map fun w => (k, ab_rv E w)), ⟨h1, h2, fun q hq => ?_⟩, fun ls' hl => ⟨hl.1, hl.2.1, by rw [List.length_set]; exact h3, fun k w hk => ?_⟩⟩
  · obtain ⟨k, -, hk⟩ := List.mem_filterMap.mp hq
    cases hw : L[k]? with
    | none => rw [hw] at hk; cases hk
    | some o =>
      rw [hw] at hk
      cases o with
      | none => cases hk
      | some w =>
        cases hk
        exact h4 k w hw
  · by_cases e : k = j
    · subst e
      rw [List.getElem?_set_self hj] at hk
      cases hk
      exact hl.2.2 _ List.mem_cons_self
    · rw [List.getElem?_set_ne (Ne.symm e)] at hk
      have hkl : k < nL := by rw [← h3]; exact (List.getElem?_eq_some_iff.mp hk).1
      have nolong : ∀ (M : ab_L) (k : Nat) (w : ab_V), ab_nl M = true → M[k]? = some (some w) → (ab_rv E w).category ≠ 2 := by
        intro M
        induction M with
        | nil => intro k w _ hk; simp at hk
        | cons o M ih =>
          intro k w hM hk
          cases k with
          | zero =>
            simp at hk
            subst hk
            rcases w with x | x | _ | x
            · simp [ab_rv, Value.category]
            · simp [ab_nl] at hM
            · simp [ab_rv, Value.category]
            · simp [ab_rv, Value.category]
          | succ k =>
            have hM' : ab_nl M = true := by
              rcases o with _ | x | x | x
              · exact hM
              · exact hM
              · simp [ab_nl] at hM
              · exact hM
            exact ih k w hM' (by simpa using hk)
      refine hl.2.2 (k, ab_rv E w) (List.mem_cons_of_mem _ (List.mem_filter.mpr ⟨List.mem_filterMap.mpr ⟨k, List.mem_range.mpr hkl, by rw [hk]; rfl⟩, ?_⟩))
      have hc := nolong L k w hn hk
      simp [e, hc]
theorem ab_sl_map {E : ab_E} : ∀ (vs : List ab_V), lg_sl (vs.map (ab_rv E)) = (ab_sl vs).map (fun o => match o with | some v => Slot.val (ab_rv E v) | none => Slot.second)
  | [] => rfl
  | .inl x :: vs => by
    have ih := ab_sl_map (E := E) vs
    simp only [lg_sl, ab_sl, List.map_cons, List.flatMap_cons] at ih ⊢
    rw [ih]; rfl
  | .inr (.inl x) :: vs => by
    have ih := ab_sl_map (E := E) vs
    simp only [lg_sl, ab_sl, List.map_cons, List.flatMap_cons] at ih ⊢
    rw [ih]; rfl
  | .inr (.inr none) :: vs => by
    have ih := ab_sl_map (E := E) vs
    simp only [lg_sl, ab_sl, List.map_cons, List.flatMap_cons] at ih ⊢
    rw [ih]; rfl
  | .inr (.inr (some x)) :: vs => by
    have ih := ab_sl_map (E := E) vs
    simp only [lg_sl, ab_sl, List.map_cons, List.flatMap_cons] at ih ⊢
    rw [ih]; rfl
theorem ab_LR_entry {E : ab_E} {vs : List ab_V} {m : Nat} (h : (ab_sl vs).length ≤ m) : ab_LR E m ((lg_sl (vs.map (ab_rv E)) ++ List.replicate (m - (lg_sl (vs.map (ab_rv E))).length) Slot.unset).toArray) (ab_ent m vs) := by
  have hlen : (lg_sl (vs.map (ab_rv E))).length = (ab_sl vs).length := by rw [ab_sl_map, List.length_map]
  have hv := lv_entry (vs.map (ab_rv E)) (n := m) (by rw [hlen]; exact h)
  refine ⟨hv.1, hv.2.1, by rw [ab_ent, List.length_append, List.length_replicate]; omega, fun k w hk => ?_⟩
  rw [ab_ent] at hk
  by_cases hl : k < (ab_sl vs).length
  · rw [List.getElem?_append_left hl] at hk
    rw [List.getElem?_toArray, List.getElem?_append_left (by rw [hlen]; exact hl), ab_sl_map, List.getElem?_map, hk]
    rfl
  · rw [List.getElem?_append_right (by omega)] at hk
    have := List.mem_of_getElem? hk
    rw [List.mem_replicate] at this
    exact absurd this.2 (by simp)
