/-! ===== multianewarray of two dimensions, of long: a row of refs, then its rows one behind the other ===== -/
section MNA
theorem ab_newArr {E : CtlPost} {e : Env} {d : Bool} {acts : List Action} {s : State} {c comp : ClassId} {k : Class} {ty : FieldType} {len : Nat} {init : Value} (hk : s.vm.classes[c]? = some k) (hkind : k.kind = .array comp ty)
    (h1 : ¬ len > e.platform.arrayLengthLimit) (h2 : ¬ len * componentBytes ty > e.platform.maxHeapBytes) (hf : fits ty init = true) (h3 : s.heap.size < e.platform.maxCells) (h4 : s.slotsUsed + len ≤ e.platform.maxSlots) {Q : Addr → Pre}
    (hq : ∀ acts', Q s.heap.size d acts' (s.pushCell (arrV c len (fun _ => init)))) : wp (Jvm.newArray c len init) Q E e d acts s := by
  simp only [Jvm.newArray, Jvm.arrayFits, wp_bind', W.ask, W.ite, h1, h2, if_false, wp_pure', W.theClass, hk, hkind, Option.some.injEq, exists_eq_left', W.alloc, W.stop, Array.size_replicate]
  rw [if_neg (by omega), arrV_new]
  refine ⟨h3, h4, fun i v hv => ?_, hq _⟩
  rw [Array.getElem?_replicate] at hv
  split at hv
  · cases hv
    simp [State.fitsSlot, State.slotType?, hk, hkind, hf]
  · cases hv
/-- the state when i of the rows are made -/
def ab_ms (T : State) (cA cB : ClassId) (m w : Nat) : Nat → State
  | 0 => T.pushCell (arrV cA m (fun _ => .null))
  | i + 1 => ((ab_ms T cA cB m w i).pushCell (arrV cB w (fun _ => .long 0))).setCell T.heap.size (arrV cA m (fun j => if j < i + 1 then .ref (T.heap.size + 1 + j) else .null))
theorem ab_ms_f (T : State) (cA cB : ClassId) (m w : Nat) : ∀ i, (ab_ms T cA cB m w i).heap.size = T.heap.size + 1 + i ∧ (ab_ms T cA cB m w i).heap[T.heap.size]? = some (arrV cA m (fun j => if j < i then .ref (T.heap.size + 1 + j) else .null)) ∧ (ab_ms T cA cB m w i).vm = T.vm ∧ (ab_ms T cA cB m w i).slotsUsed = T.slotsUsed + m + i * w ∧
    (∀ q, q < T.heap.size → (ab_ms T cA cB m w i).heap[q]? = T.heap[q]?) ∧ ∀ j, j < i → (ab_ms T cA cB m w i).heap[T.heap.size + 1 + j]? = some (arrV cB w (fun _ => .long 0))
  | 0 => ⟨by simp [ab_ms], by simp [ab_ms], rfl, by simp [ab_ms, arrV_size], fun q hq => State.heap_pushCell_of_lt _ _ hq, fun j hj => absurd hj (Nat.not_lt_zero _)⟩
  | i + 1 => by
    obtain ⟨f1, f2, f3, f4, f5, f6⟩ := ab_ms_f T cA cB m w i
    have hp : ((ab_ms T cA cB m w i).pushCell (arrV cB w (fun _ => .long 0))).heap[T.heap.size]? = some (arrV cA m (fun j => if j < i then .ref (T.heap.size + 1 + j) else .null)) := by
      rw [State.heap_pushCell_of_lt (h := show T.heap.size < (ab_ms T cA cB m w i).heap.size by omega)]
      exact f2
    refine ⟨?_, State.heap_setCell_self hp, ?_, ?_, fun q hq => ?_, fun j hj => ?_⟩
    · simp [ab_ms, State.setCell, f1]
      omega
    · simp [ab_ms, f3]
    · simp [ab_ms, f4, arrV_size, Nat.succ_mul]
      omega
    · show (((ab_ms T cA cB m w i).pushCell (arrV cB w (fun _ => .long 0))).setCell T.heap.size _).heap[q]? = _
      rw [State.heap_setCell_other (Nat.ne_of_gt hq), State.heap_pushCell_of_lt (h := show q < (ab_ms T cA cB m w i).heap.size by omega)]
      exact f5 q hq
    · show (((ab_ms T cA cB m w i).pushCell (arrV cB w (fun _ => .long 0))).setCell T.heap.size _).heap[T.heap.size + 1 + j]? = _
      rw [State.heap_setCell_other (show T.heap.size ≠ T.heap.size + 1 + j by omega)]
      by_cases e : j = i
      · subst e
        rw [← f1]
        exact State.heap_pushCell_size _ _
      · rw [State.heap_pushCell_of_lt (h := show T.heap.size + 1 + j < (ab_ms T cA cB m w i).heap.size by omega)]
        exact f6 j (by omega)
theorem ab_ms_top (T : State) (g : JFrame) (cA cB : ClassId) (m w : Nat) : ∀ i, ab_ms (T.setTop g) cA cB m w i = (ab_ms T cA cB m w i).setTop g
  | 0 => rfl
  | i + 1 => by simp only [ab_ms, ab_ms_top T g cA cB m w i, State.heap_setTop, State.pushCell_setTop, State.setCell_setTop]
theorem ab_ms_upd (m h0 i : Nat) (cA : ClassId) : (arrV cA m (fun j => if j < i then Value.ref (h0 + 1 + j) else .null)).setSlot i (.ref (h0 + 1 + i)) = arrV cA m (fun j => if j < i + 1 then .ref (h0 + 1 + j) else .null) := by
  rw [arrV_store]
  congr 1
  funext q
  unfold updV
  by_cases e : q = i
  · rw [if_pos e, if_pos (by omega), e]
  · rw [if_neg e]
    show (if q < i then _ else _) = _
    by_cases d : q < i
    · rw [if_pos d, if_pos (by omega)]
    · rw [if_neg d, if_neg (by omega)]
variable {p : Program} {l : Launch} {e : Env} {R : Room} {s : State} {m0 : MethodId} {args : Array Value} {below : List Frame} {meth : Method} {c : Code} {T : State} {locs : List Loc} {cells slots : Nat}
theorem ab_ms_st (X : Stand p l e R s m0 args below meth c T locs cells slots) (cA cB : ClassId) (m w : Nat) : ∀ i, Stand p l e R s m0 args below meth c (ab_ms T cA cB m w i) locs (cells + 1 + i) (slots + m + i * w)
  | 0 => by
    have h := X.pushed (arrV cA m (fun _ => .null))
    rw [arrV_size] at h
    rw [Nat.zero_mul]
    exact h
  | i + 1 => by
    obtain ⟨f1, f2, -⟩ := ab_ms_f T cA cB m w i
    have hp : ((ab_ms T cA cB m w i).pushCell (arrV cB w (fun _ => .long 0))).heap[T.heap.size]? = some (arrV cA m (fun j => if j < i then .ref (T.heap.size + 1 + j) else .null)) := by
      rw [State.heap_pushCell_of_lt (h := show T.heap.size < (ab_ms T cA cB m w i).heap.size by omega)]
      exact f2
    have h := ((ab_ms_st X cA cB m w i).pushed (arrV cB w (fun _ => .long 0))).stored hp i (.ref (T.heap.size + 1 + i))
    rw [ab_ms_upd, arrV_size] at h
    have h := h.dropFresh (fun x hx => by
      rw [List.mem_singleton.mp hx]
      exact X.heapGrown)
    rw [show slots + m + (i + 1) * w = slots + m + i * w + w by rw [Nat.succ_mul]; omega]
    exact h
theorem ab_make2 {E : CtlPost} {d : Bool} {acts : List Action} {cA cB cc : ClassId} {kA kB : Class} {n k : Int32} {m w : Nat} (hkA : T.vm.classes[cA]? = some kA) (hA : kA.kind = .array cB (.array .long)) (hkB : T.vm.classes[cB]? = some kB) (hB : kB.kind = .array cc .long) (hn : ¬ n < 0) (hk : ¬ k < 0) (hnm : n.toNatClampNeg = m) (hkw : k.toNatClampNeg = w)
    (h1 : ¬ m > e.platform.arrayLengthLimit) (h2 : ¬ m * 4 > e.platform.maxHeapBytes) (h3 : ¬ w > e.platform.arrayLengthLimit) (h4 : ¬ w * 8 > e.platform.maxHeapBytes) (h5 : T.heap.size + (1 + m) ≤ e.platform.maxCells) (h6 : T.slotsUsed + (m + m * w) ≤ e.platform.maxSlots) {Q : Addr → Pre}
    (hq : ∀ d' acts', Q T.heap.size d' acts' (ab_ms T cA cB m w m)) : wp (multianewarray.make cA [n, k]) Q E e d acts T := by
  have hfind : ([k].find? (· < 0)) = none := by simp [hk]
  rw [multianewarray.make]
  simp only [wp_bind', W.ite, hn, if_false, wp_pure', W.theClass, hkA, hA, Option.some.injEq, exists_eq_left', hnm]
  refine ab_newArr hkA hA h1 h2 rfl (by omega) (by have := Nat.zero_le (m * w); omega) fun acts0 => ?_
  simp only [hfind]
  rw [ite_self, wp_bind', Std.Legacy.Range.forIn_eq_forIn_range']
  have hsz : ([:m] : Std.Legacy.Range).size = m := by simp [Std.Legacy.Range.size]
  rw [hsz]
  show wp (forIn (List.range' 0 m 1) PUnit.unit _) _ E e d acts0 _
  refine wp_forIn_inv (fun rest s' => ∃ i, i ≤ m ∧ rest = List.range' i (m - i) ∧ s' = ab_ms T cA cB m w i) _ _ ⟨0, Nat.zero_le _, rfl, rfl⟩ ?_ ?_
  · rintro x rest s' d' acts' Q' ⟨i, hi, hl, rfl⟩ hnext
    have hlt : i < m := by
      by_cases z : i < m
      · exact z
      · rw [show m - i = 0 by omega] at hl
        cases hl
    rw [show m - i = (m - (i + 1)) + 1 by omega, List.range'_succ] at hl
    obtain ⟨rfl, rfl⟩ := List.cons.inj hl
    obtain ⟨f1, f2, f3, f4, -⟩ := ab_ms_f T cA cB m w x
    have hmul : x * w + w ≤ m * w := by
      rw [← Nat.succ_mul]
      exact Nat.mul_le_mul_right w hlt
    simp only [wp_bind']
    rw [multianewarray.make]
    simp only [wp_bind', W.ite, hk, if_false, wp_pure', W.theClass, f3, hkB, hB, Option.some.injEq, exists_eq_left', hkw]
    refine ab_newArr (by rw [f3]; exact hkB) hB h3 h4 rfl (by omega) (by omega) fun acts1 => ?_
    have hp : ((ab_ms T cA cB m w x).pushCell (arrV cB w (fun _ => .long 0))).heap[T.heap.size]? = some (arrV cA m (fun j => if j < x then .ref (T.heap.size + 1 + j) else .null)) := by
      rw [State.heap_pushCell_of_lt (h := show T.heap.size < (ab_ms T cA cB m w x).heap.size by omega)]
      exact f2
    rw [wp_bind', W.writeLoc]
    refine ⟨_, hp, by simp [arrV], by rw [arrV_size]; exact hlt, ?_, ?_⟩
    · have : ((ab_ms T cA cB m w x).pushCell (arrV cB w (fun _ => .long 0))).vm.classes[cA]? = some kA := by
        show (ab_ms T cA cB m w x).vm.classes[cA]? = _
        rw [f3]
        exact hkA
      show State.fitsSlot ((ab_ms T cA cB m w x).pushCell (arrV cB w (fun _ => .long 0))) cA .none x _ = true
      simp only [State.fitsSlot, State.slotType?, this]
      simp [hA]
      rfl
    · rw [f1, ab_ms_upd]
      exact hnext _ _ _ ⟨x + 1, by omega, rfl, rfl⟩
  · rintro s' d' acts' ⟨i, hi, hl, rfl⟩
    have e : i = m := by
      by_cases z : i < m
      · rw [show m - i = (m - (i + 1)) + 1 by omega, List.range'_succ] at hl
        cases hl
      · omega
    subst e
    simp only [wp_pure']
    exact hq d' acts'
end MNA
theorem ab_aoJ : Cond.arrayOver (.array .long) ∈ lw_tbl := List.mem_of_getElem? (i := 272) (by decide +kernel)
set_option maxHeartbeats 4000000 in
theorem ab_mna2 {E : ab_E} {k pc idx d : Nat} {L : ab_L} {S : List ab_V} {h : ab_H} {n : Nat} {u : Nat × Nat} {Q : ab_Q} {p : Program} {l : Launch} {e : Env} {R : Room} {s : State} {m : MethodId} {args : Array Value} {below : List Frame} {meth : Method} {c : Code} {H : Heap} {locs : List Loc} {ls : Array Slot} {len : Nat}
    (hC : ab_cx E k p R s m args meth c) (hRep : ab_Rep E h n H) (hS : va_S (fun q => E.1 ≤ q) s.heap H locs) (hL : ab_LR E (ab_maxL k) ls L) (hd : decode (ab_code k) pc = .ok (.multianewarray idx d, len)) (hI : len = 4 ∧ d = 2 ∧ ab_mnp (ab_SW E) idx k pc L S h n u Q) :
    W p l e R s m args below meth c H locs u.1 u.2 (MQ below (ab_Qc E Q) args s (ab_cost k).1 (ab_cost k).2 (fun q => E.1 ≤ q)) (F0 m pc ls (S.map (ab_rv E))) := by
  obtain ⟨hx, hb, hr, hlk, hml, hown, hts, hnm, hKn, hdf, hdl, hdc, hds⟩ := id hC
  obtain ⟨rfl, rfl, mm, w, S', rfl, hm, hw, hcl, hu1, hu2, hP⟩ := hI
  have hnx := ab_next hRep
  have hnat : (Int32.ofInt (mm : Int)).toNatClampNeg = mm := by rw [ab_icl (by omega) (by omega)]; rfl
  have hnat2 : (Int32.ofInt (w : Int)).toNatClampNeg = w := by rw [ab_icl (by omega) (by omega)]; rfl
  have hneg : ¬ Int32.ofInt (mm : Int) < 0 := fun z => by
    have := (ab_ilt (x := (mm : Int)) (y := 0) ⟨by omega, by omega⟩ (by omega)).mp z
    omega
  have hneg2 : ¬ Int32.ofInt (w : Int) < 0 := fun z => by
    have := (ab_ilt (x := (w : Int)) (y := 0) ⟨by omega, by omega⟩ (by omega)).mp z
    omega
  obtain ⟨cB, cA, kA, f1, -, f3, f4, f5⟩ := ab_AOs (Or.inr ⟨.long, rfl, rfl⟩) (hKn.2.2.1 _ ab_aoJ rfl)
  have hR6 := (ab_arrof hKn (t := 6) (by omega)).2
  have hcA : cA = E.2.2.1 6 := Option.some.inj (f5.symm.trans hR6)
  have hR3 := ab_arrof hKn (t := 3) (by omega)
  have hcB : cB = E.2.2.1 3 := Option.some.inj (f1.symm.trans hR3.2)
  obtain ⟨-, kB, g1, cc, g2⟩ := hR3.1 w (fun _ => .long 0)
  subst hcA
  subst hcB
  intro T hT X
  have hpl : e.platform.magicAccessors = ({} : Platform).magicAccessors := by rw [X.admits.platform]
  obtain ⟨c0, hfc0, hlk0⟩ := Cond.classLink_spec hown (hts _ (ab_tin hcl rfl)) e.platform hpl
  have hc0 : E.2.2.1 6 = c0 := Option.some.inj (hR6.symm.trans hfc0)
  subst hc0
  obtain ⟨hg1, hwarm1, hready1⟩ := State.classEntry (e := e) X.warmed hlk0
  generalize hvm : T.vm.noted m.cls idx (.cls (E.2.2.1 6)) = vm1 at hg1 hwarm1 hready1
  have hal : s.vm.Alike vm1 := hwarm1.alike
  have hsz1 : vm1.classes.size ≤ T.vm.classes.size := by
    rw [← hvm]
    no_record
  obtain ⟨kA1, q1, q2⟩ := hal.2.2 _ _ f3
  obtain ⟨kB1, q3, q4⟩ := hal.2.2 _ _ g1
  have X1 := X.noted hwarm1
  obtain ⟨r1, r2⟩ := X.roomAbove (Nat.le_trans hu1 hdc) (Nat.le_trans hu2 hds)
  have XF := ab_ms_st X1 (E.2.2.1 6) (E.2.2.1 3) mm w mm
  obtain ⟨z1, z2, z3, z4, z5, z6⟩ := ab_ms_f (T.setVm vm1) (E.2.2.1 6) (E.2.2.1 3) mm w mm
  have hT1 : (T.setVm vm1).heap = H := hT
  have hTs : T.heap.size = H.size := by rw [hT]
  have hsz : H.size = E.1 + (n - 6) := hRep.1
  have hn6 := hRep.2.1
  rw [hT1] at z1 z2 z5 z6
  have hRep1 : ab_Rep E (fun b => if b = n then some (.inr (.inr (.inr (6, mm, fun i => if 0 ≤ i ∧ i < mm then some (n + 1 + i.toNat) else none)))) else if n < b ∧ b < n + 1 + mm then some (.inr (.inr (.inl (w, fun _ => 0)))) else h b) (n + 1 + mm) (ab_ms (T.setVm vm1) (E.2.2.1 6) (E.2.2.1 3) mm w mm).heap := by
    refine ⟨by rw [z1, hsz]; omega, by omega, fun i hi => ?_, fun a ce ha hce => ?_⟩
    · show (if i = n then _ else if n < i ∧ i < n + 1 + mm then _ else h i) = _
      rw [if_neg (by omega), if_neg (by omega)]
      exact hRep.2.2.1 i hi
    · have hce' : (if a = n then some (.inr (.inr (.inr (6, mm, fun i => if 0 ≤ i ∧ i < mm then some (n + 1 + i.toNat) else none)))) else if n < a ∧ a < n + 1 + mm then some (.inr (.inr (.inl (w, fun _ => 0)))) else h a) = some ce := hce
      have had : ab_ad E a = E.1 + (a - 6) := ab_ad_ge ha
      by_cases e1 : a = n
      · rw [if_pos e1] at hce'
        cases hce'
        refine ⟨by omega, by omega, by omega, hm, ?_⟩
        rw [show ab_ad E a = H.size by rw [had, hsz, e1], z2]
        refine congrArg some ?_
        unfold arrV
        congr 1
        refine congrArg _ ?_
        funext j
        have hj := j.isLt
        show (if j.val < mm then _ else _) = ab_rv E (vo (if 0 ≤ ((j.val : Nat) : Int) ∧ ((j.val : Nat) : Int) < (mm : Int) then _ else _))
        rw [if_pos hj, if_pos ⟨by omega, by omega⟩]
        show _ = Value.ref (ab_ad E (n + 1 + ((j.val : Nat) : Int).toNat))
        rw [ab_ad_ge (show 6 ≤ n + 1 + ((j.val : Nat) : Int).toNat by omega), hsz]
        refine congrArg Value.ref ?_
        have ej : ((j.val : Nat) : Int).toNat = j.val := Int.toNat_natCast _
        rw [ej]
        have en : E.1 + (n - 6) + 1 + j.val = E.1 + (n + 1 + j.val - 6) := by omega
        exact en
      · rw [if_neg e1] at hce'
        by_cases e2 : n < a ∧ a < n + 1 + mm
        · rw [if_pos e2] at hce'
          cases hce'
          refine ⟨by omega, hw, ?_⟩
          have := z6 (a - n - 1) (by omega)
          rw [show H.size + 1 + (a - n - 1) = ab_ad E a by rw [had, hsz]; omega] at this
          exact this
        · rw [if_neg e2] at hce'
          obtain ⟨x1, x2⟩ := hRep.2.2.2 a ce ha hce'
          exact ⟨by omega, ab_cell_kept (z5 _ (by rw [had, hsz]; omega)) x2⟩
  have hS1 : va_S (fun q => E.1 ≤ q) s.heap (ab_ms (T.setVm vm1) (E.2.2.1 6) (E.2.2.1 3) mm w mm).heap locs := ⟨by rw [z1]; have := hS.1; omega, fun q y1 y2 => (z5 q (Nat.lt_of_lt_of_le y1 hS.1)).trans (hS.2.1 q y1 y2), hS.2.2⟩
  have XF' : Stand p l e R s m args below meth c (ab_ms (T.setVm vm1) (E.2.2.1 6) (E.2.2.1 3) mm w mm) locs (u.1 + 1 + mm) (u.2 + mm + mm * w) := XF
  obtain ⟨t, b1, b2⟩ := hP p l e R s m args below meth c hC _ locs ls hRep1 hS1 hL (ab_ms (T.setVm vm1) (E.2.2.1 6) (E.2.2.1 3) mm w mm) rfl XF'
  refine ⟨t, ?_, b2⟩
  have hl1 : ¬ mm > e.platform.arrayLengthLimit := by rw [Launch.admits_arrayLengthLimit X.admits]; omega
  have hl2 : ¬ mm * 4 > e.platform.maxHeapBytes := by rw [Launch.admits_maxHeapBytes X.admits]; omega
  have hl3 : ¬ w > e.platform.arrayLengthLimit := by rw [Launch.admits_arrayLengthLimit X.admits]; omega
  have hl4 : ¬ w * 8 > e.platform.maxHeapBytes := by rw [Launch.admits_maxHeapBytes X.admits]; omega
  have hk1 : kA1.kind = .array (E.2.2.1 3) (.array .long) := by rw [q2]; exact f4
  have hk2 : kB1.kind = .array cc .long := by rw [q4]; exact g2
  jvm_step X.here [hx, hb, hd]
  have hgF : ∀ G : JFrame, G.method = m → (T.setTop G).method? = some m := fun G hG => by
    rw [State.method?_setTop G X.here.top, hG]
  simp only [multianewarray.sem, wp_bind']
  rw [W.resolveClassAt_links (mm := m) (c := E.2.2.1 6) (vm' := vm1) (hgF _ rfl) hg1 hsz1]
  rw [wp_bind', W.popN, if_neg (by decide)]
  refine ⟨_, State.topJava?_setTop' (s := T.setVm vm1) _ X.here.top, [.int (Int32.ofInt mm), .int (Int32.ofInt w)], S'.map (ab_rv E), rfl, rfl, ?_⟩
  simp only [List.mapM_cons, List.mapM_nil, wp_bind', wp_pure']
  have eS : ∀ F G : JFrame, ((T.setTop F).setVm vm1).setTop G = (T.setVm vm1).setTop G := fun F G => by
    show ((T.setVm vm1).setTop F).setTop G = _
    rw [State.setTop_setTop]
  rw [eS]
  refine ab_make2 (T := (T.setVm vm1).setTop _) (kA := kA1) (kB := kB1) (m := mm) (w := w) (cB := E.2.2.1 3) q1 hk1 q3 hk2 hneg hneg2 hnat hnat2 hl1 hl2 hl3 hl4 r1 r2 fun d' acts' => ?_
  rw [ab_ms_top]
  simp only [wp_bind', W.mark, W.pushRef, State.topJava?_setTop' _ XF'.here.top, Option.some.injEq, exists_eq_left', State.setTop_setTop, State.heap_setTop]
  intro acts
  simp [jvm, XF'.here.top]
  rw [List.map_cons, show ab_rv E (vr n) = .ref T.heap.size from (congrArg Value.ref (hnx.trans hTs.symm))] at b1
  exact b1
