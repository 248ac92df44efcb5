/-! ===== the judgement is true of the real machine ===== -/
theorem ab_LR_inc {E : ab_E} {nL : Nat} {ls : Array Slot} {L : ab_L} {j : Nat} {x : Int} {v : ab_V} (hL : ab_LR E nL ls L) (hx : L[j]? = some (some (vi x))) (hn : ab_nl L = true) (hv : ab_cat v = 1) :
    ∃ (lv : List (Nat × Value)), lv_has ls nL ((j, .int (Int32.ofInt x)) :: lv) ∧ (∀ ls', lv_has ls' nL ((j, ab_rv E v) :: ((j, .int (Int32.ofInt x)) :: lv).filter (fun q => !(q.1 == j) && !(q.1 + 1 == j && q.2.category == 2))) → ab_LR E nL ls' (L.set j (some v))) := by
  have hj : j < L.length := (List.getElem?_eq_some_iff.mp hx).1
  obtain ⟨lv, h1, h2⟩ := ab_LR_set hL hj hn hv
  refine ⟨lv, ⟨h1.1, h1.2.1, fun q hq => ?_⟩, fun ls' hl => h2 ls' ⟨hl.1, hl.2.1, fun q hq => ?_⟩⟩
  · rcases List.mem_cons.mp hq with rfl | hq
    · exact hL.2.2.2 j _ hx
    · exact h1.2.2 q hq
  · rcases List.mem_cons.mp hq with rfl | hq
    · exact hl.2.2 _ List.mem_cons_self
    · exact hl.2.2 q (List.mem_cons_of_mem _ (List.mem_filter.mpr ⟨List.mem_cons_of_mem _ (List.mem_filter.mp hq).1, (List.mem_filter.mp hq).2⟩))
theorem ab_loc {E : ab_E} {a : Nat} (h6 : 6 ≤ a) : E.1 ≤ ab_ad E a := by rw [ab_ad_ge h6]; omega
theorem ab_stI {m : Nat} {cA : ClassId} {f : Int → Int} {i x : Int} (h0 : 0 ≤ i) (hi : i < 2147483648) : (arrV cA m (fun j => .int (Int32.ofInt (f j)))).setSlot (Int32.ofInt i).toNatClampNeg (.int (Int32.ofInt x)) = arrV cA m (fun j => .int (Int32.ofInt (ab_ui f i x j))) := by
  rw [arrV_store, ab_icl h0 hi]
  congr 1
  funext q
  unfold updV ab_ui
  by_cases hq : q = i.toNat
  · rw [if_pos hq, if_pos (by omega)]
  · rw [if_neg hq, if_neg (by omega)]
theorem ab_stL {m : Nat} {cA : ClassId} {f : Int → Int64} {i : Int} {x : Int64} (h0 : 0 ≤ i) (hi : i < 2147483648) : (arrV cA m (fun j => .long (f j))).setSlot (Int32.ofInt i).toNatClampNeg (.long x) = arrV cA m (fun j => .long (ab_ui f i x j)) := by
  rw [arrV_store, ab_icl h0 hi]
  congr 1
  funext q
  unfold updV ab_ui
  by_cases hq : q = i.toNat
  · rw [if_pos hq, if_pos (by omega)]
  · rw [if_neg hq, if_neg (by omega)]
theorem ab_stR {E : ab_E} {m b : Nat} {cA : ClassId} {f : Int → Option Nat} {i : Int} (h0 : 0 ≤ i) (hi : i < 2147483648) : (arrV cA m (fun j => ab_rv E (vo (f j)))).setSlot (Int32.ofInt i).toNatClampNeg (.ref (ab_ad E b)) = arrV cA m (fun j => ab_rv E (vo (ab_ui f i (some b) j))) := by
  rw [arrV_store, ab_icl h0 hi]
  congr 1
  funext q
  unfold updV ab_ui
  by_cases hq : q = i.toNat
  · rw [if_pos hq, if_pos (by omega)]; rfl
  · rw [if_neg hq, if_neg (by omega)]
/-! super.m(..), the method declared in the superclass or in its own superclass -/
theorem ab_good_pay {s : State} {args : Array Value} {j : Nat} (hts : ∀ w ∈ ab_T, w.before args s = true) (hcode : Cond.code (ab_nm j) (ab_code j) (ab_maxL j) (ab_ret j) ∈ lw_tbl) : ∀ w ∈ ab_W j, ∀ (a' : Array Value) (U : State), s.WarmedH U.vm → w.before a' U = true := pay_in hts (ab_ws j hcode)
section ABSU
variable {p : Program} {l : Launch} {e : Env} {R : Room} {s : State} {m : MethodId} {args : Array Value} {below : List Frame} {meth : Method} {c : Code} {H : Heap} {locs : List Loc} {cells slots : Nat}
theorem ab_runSU {bytes cc : ByteArray} {maxL nL n index : Nat} {ret : Option FieldType} {ws : List Cond} {rm : Room} {Pc : Array Value → State → Prop} {Qc : Array Value → State → Outcome → State → Prop} {free : Addr → Prop} {own sup C : String} {y : MethodName} {b : Addr} {cellB : Cell} {kB : Class} {As rest : List Value} {g : JFrame}
    (hx : p.tables.exec = Jvm.exec) (hb : c.code = cc) (hml : c.maxLocals = nL) (hown : s.vm.findClass own = some m.cls) (hM : Met l y (Cond.code y bytes maxL ret :: ws) rm Pc Qc rm.cells rm.slots free) (hws : ∀ w ∈ Cond.code y bytes maxL ret :: ws, ∀ (a' : Array Value) (U : State), s.WarmedH U.vm → w.before a' U = true)
    (hini : (Cond.initialized y.cls).before args s = true) (hcode : (Cond.code y bytes maxL ret).before args s = true) (hlink : (Cond.methodLink own index ⟨sup, y.name, y.desc⟩).before args s = true) (hsame : (Cond.sameMethod sup y.cls y.name y.desc).before args s = true) (hsup : (Cond.superclass own sup).before args s = true) (hup : sup = y.cls ∨ (Cond.superclass sup y.cls).before args s = true)
    (hinst : (Cond.instanceMethod y).before args s = true) (hno : y.name ≠ "<init>") (har : (parseMethodDescriptor y.desc).map (fun d => d.parameters.length) = some n) (hR : rm.frames + 1 ≤ R.frames ∧ 8 + (maxL + 11) + rm.locals ≤ R.locals)
    (hcB : H[b]? = some cellB) (hoB : cellB.vm.isStatics = false) (hkB : s.vm.classes[cellB.cls]? = some kB) (hp : PreV s H C b Pc As)
    (hg : g.method = m) (hn : As.length = n) (hsize : g.locals.size = nL) (hstack : g.stack = As.reverse ++ .ref b :: rest) (hW : 2 * g.monitorRoom + (rest.map fun v => v.category).sum ≤ 8) (hdg : decode cc g.pc = .ok (.invokespecial index, 3)) (hf : cells + rm.cells ≤ R.cells ∧ slots + rm.slots ≤ R.slots) :
    va_Run p l e R s m args below meth c H locs cells slots rm.cells rm.slots g rest (Qc (Value.ref b :: As).toArray) (free) := by
  have hK : Back l R p e below s args y 3 8 (PreOf R rm.cells rm.slots Pc) (PostOf Qc rm.cells rm.slots free) := back_of (bytes := bytes) (maxL := maxL) (ret := ret) hM hp.1 rfl rfl hR.1 hR.2 hws List.mem_cons_self (fun a' U hW => word_at hW (Or.inl (by first | rfl | simp [Cond.onTables, Cond.keeps, Cond.steady])) hini)
  have hlen : ∀ sig, parseMethodDescriptor y.desc = some sig → n = sig.parameters.length := fun sig h => by
    rw [h] at har
    exact (Option.some.inj har).symm
  obtain ⟨-, -, hPc⟩ := hp
  intro T hT X
  obtain ⟨mk, methM, hnamed, hmethM, hstM, habM⟩ := Cond.instanceMethod_spec hinst
  obtain ⟨methM', cM, hmethM', -, -, -, -, -, -, hsigM⟩ := Cond.code_spec hnamed hcode
  cases hmethM.symm.trans hmethM'
  obtain ⟨ps, dk, kp, hps, hdk, hkp, hsuper, -, -, hnid⟩ := Cond.superclass_spec hown hsup
  have hmk := findClass_of_methodNamed hnamed
  have hsub : s.vm.isSubclass ps mk.cls = true := by
    rcases hup with rfl | hup
    · have hpm : ps = mk.cls := Option.some.inj (hps.symm.trans hmk)
      rw [hpm]; simp [Vm.isSubclass, Vm.isSubclassAux]
    · obtain ⟨ps2, dk2, kp2, hps2, hdk2, hkp2, hsuper2, -, -, -⟩ := Cond.superclass_spec hps hup
      have hpm : ps2 = mk.cls := Option.some.inj (hps2.symm.trans hmk)
      subst hpm
      have hz : s.vm.classes.size = s.vm.classes.size - 1 + 1 := by
        have := (Array.getElem?_eq_some_iff.mp hdk2).1
        omega
      unfold Vm.isSubclass
      rw [hz]
      simp [Vm.isSubclassAux, hdk2, hsuper2]
  obtain ⟨vm₁, X₁, hstep₁⟩ := X.invokespecialUp hx hown hlink hsame (show s.methodNamed? ⟨y.cls, y.name, y.desc⟩ = some mk from hnamed) hmethM hstM habM hno hdk hnid hps hsuper hsub (a := b) (cell := cellB) (by rw [hT]; exact hcB)
    (fun z h => by rw [h] at hoB; cases hoB) hkB (g := g) hg (argsL := As) (rest := rest) (hn.trans (hlen _ hsigM)) hstack (by rw [hb]; exact hdg)
  obtain ⟨v, ⟨U', l2, c2, s2⟩, X', ⟨g', mk', t, L, e1, e2, hq, h1, hL, h2, h3⟩, hsteps⟩ := hK m meth c ⟨T.setVm vm₁, locs, cells, slots⟩ { g with stack := rest } (.invokespecial index) mk (Value.ref b :: As).toArray X₁ hg (hsize.trans hml.symm) (by rw [hb]; exact hdg) hW (X₁.named hnamed) ⟨hf.1, hf.2, hPc (T.setVm vm₁) hT X₁.warmed⟩
  dsimp only [Pt.U, Pt.locs, Pt.cells, Pt.slots] at X' e1 e2 h1 h2 h3 hsteps
  subst h1; subst h2; subst h3
  exact ⟨v, (T.setVm vm₁).calling g' mk' (Value.ref b :: As).toArray, t, U', L, hT, X', hL, e1, e2, hq, fun target h => hstep₁ _ (by rw [doInvoke_state]; exact hsteps.trans h)⟩
end ABSU
theorem ab_tyok {ci j : Nat} {C : String} {T : u_T} {N : Nat} (h : vwCl[ci]? = some (C, T, N)) (hj : j < N) : ab_tyf ci j = .int ∨ ab_tyf ci j = .boolean ∨ (∃ z, ab_tyf ci j = .object z) ∨ ∃ z, ab_tyf ci j = .array z := by
  have key : ∀ ci : Fin 13, ∀ j : Fin 34, (match ab_tyf ci.val j.val with | .int => true | .boolean => true | .object _ => true | .array _ => true | _ => false) = true := by decide +kernel
  have hci : ci < 13 := (List.getElem?_eq_some_iff.mp h).1
  have hN : N ≤ 34 := by
    match ci, h with
    | 0, h | 1, h | 2, h | 3, h | 4, h | 5, h | 6, h | 7, h | 8, h | 9, h | 10, h | 11, h | 12, h => cases h; decide
    | k + 13, h => omega
  have hk := key ⟨ci, hci⟩ ⟨j, by omega⟩
  generalize ab_tyf ci j = ty at hk
  cases ty <;> first | exact Or.inl rfl | exact Or.inr (Or.inl rfl) | exact Or.inr (Or.inr (Or.inl ⟨_, rfl⟩)) | exact Or.inr (Or.inr (Or.inr ⟨_, rfl⟩)) | cases hk
theorem ab_acI : Cond.arrayClass .int ∈ lw_tbl := List.mem_of_getElem? (i := 103) (by decide +kernel)
theorem ab_acB : Cond.arrayClass .byte ∈ lw_tbl := List.mem_of_getElem? (i := 268) (by decide +kernel)
theorem ab_acZ : Cond.arrayClass .boolean ∈ lw_tbl := List.mem_of_getElem? (i := 237) (by decide +kernel)
theorem ab_acJ : Cond.arrayClass .long ∈ lw_tbl := List.mem_of_getElem? (i := 307) (by decide +kernel)
theorem ab_oi1 : Cond.instanceMethod objectInit ∈ lw_tbl := List.mem_of_getElem? (i := 75) (by decide +kernel)
theorem ab_oi2 : Cond.code objectInit ⟨#[0xb1]⟩ 1 none ∈ lw_tbl := List.mem_of_getElem? (i := 76) (by decide +kernel)
theorem ab_ac1 : Cond.native arraycopyName ∈ lw_tbl := List.mem_of_getElem? (i := 409) (by decide +kernel)
theorem ab_ac2 : Cond.static arraycopyName ∈ lw_tbl := List.mem_of_getElem? (i := 408) (by decide +kernel)
theorem ab_ac3 : Cond.initialized "java/lang/System" ∈ lw_tbl := List.mem_of_getElem? (i := 68) (by decide +kernel)
theorem ab_cpyV {cA : ClassId} {n1 : Nat} {f g : Int → Int} {sp dp m : Int} (h1 : 0 ≤ sp) (h2 : 0 ≤ dp) (h3 : 0 ≤ m) : (fun (j : Nat) => Value.int (va_cpy (fun j => Int32.ofInt (f (j : Nat))) (fun j => Int32.ofInt (g (j : Nat))) sp.toNat dp.toNat m.toNat j)) = (fun (j : Nat) => Value.int (Int32.ofInt (ab_cpy f g sp dp m j))) := by
  funext j
  unfold va_cpy ab_cpy
  by_cases hc : dp.toNat ≤ j ∧ j < dp.toNat + m.toNat
  · rw [if_pos hc, if_pos (by omega)]
    have e : (((sp.toNat + (j - dp.toNat) : Nat)) : Int) = sp + ((j : Int) - dp) := by omega
    show Value.int (Int32.ofInt (f ((sp.toNat + (j - dp.toNat) : Nat) : Int))) = _
    rw [e]
  · rw [if_neg hc, if_neg (by omega)]
set_option maxHeartbeats 4000000 in
theorem ab_acopy {E : ab_E} {k pc idx : Nat} {L : ab_L} {S : List ab_V} {h : ab_H} {n : Nat} {u : Nat × Nat} {Q : ab_Q} {p : Program} {l : Launch} {e : Env} {R : Room} {s : State} {m : MethodId} {args : Array Value} {below : List Frame} {meth : Method} {c : Code} {H : Heap} {locs : List Loc} {ls : Array Slot}
    (hC : ab_cx E k p R s m args meth c) (hRep : ab_Rep E h n H) (hS : va_S (fun q => E.1 ≤ q) s.heap H locs) (hL : ab_LR E (ab_maxL k) ls L) (hd : decode (ab_code k) pc = .ok (.invokestatic idx, 3)) (hI : ab_acp (ab_SW E) idx k pc L S h n u Q) :
    W p l e R s m args below meth c H locs u.1 u.2 (MQ below (ab_Qc E Q) args s (ab_cost k).1 (ab_cost k).2 (fun q => E.1 ≤ q)) (F0 m pc ls (S.map (ab_rv E))) := by
  obtain ⟨hx, hb, hr, hlk, hml, hown, hts, hnm, hKn, hdf, hdl, hdc, hds⟩ := id hC
  obtain ⟨mm, dp, a, sp, a0, S', n0, n1, f, g, rfl, ⟨-, hln⟩, ha0, ha, h60, h6, s1, s2, s3, s4, s5, hcat, hdp, hP⟩ := hI
  obtain ⟨-, -, z1, z2⟩ := hRep.2.2.2 a0 _ h60 ha0
  obtain ⟨han, z3, z4, z5⟩ := hRep.2.2.2 a _ h6 ha
  intro T hT X
  obtain ⟨-, k0, hk0, cm0, hkk0⟩ := (ab_arrof hKn (t := 0) (by omega)).1 n0 (fun j => .int (Int32.ofInt (f j)))
  obtain ⟨-, k1, hk1, cm1, hkk1⟩ := (ab_arrof hKn (t := 0) (by omega)).1 n1 (fun j => .int (Int32.ofInt (g j)))
  have t1 : (Int32.ofInt sp).toNatClampNeg = sp.toNat := ab_icl s1 (by omega)
  have t2 : (Int32.ofInt dp).toNatClampNeg = dp.toNat := ab_icl s2 (by omega)
  have t3 : (Int32.ofInt mm).toNatClampNeg = mm.toNat := ab_icl s3 (by omega)
  have hz : ab_inR 0 := by omega
  have hi1 : ab_inR sp := by omega
  have hi2 : ab_inR dp := by omega
  have hi3 : ab_inR mm := by omega
  have hc0 : H[ab_ad E a0]? = some (vp_cell (E.2.2.1 0) (n0, .inl (fun j => Int32.ofInt (f (j : Nat))))) := z2
  have hc1 : H[ab_ad E a]? = some (vp_cell (E.2.2.1 0) (n1, .inl (fun j => Int32.ofInt (g (j : Nat))))) := z5
  obtain ⟨vm', X', step⟩ := X.arraycopy hx hown (hts _ (ab_tin hln rfl)) (hts _ (ab_tin ab_ac1 rfl)) (hts _ (ab_tin ab_ac2 rfl)) (hts _ (ab_tin ab_ac3 rfl)) (src := ab_ad E a0) (dst := ab_ad E a) (cs := vp_cell (E.2.2.1 0) (n0, .inl (fun j => Int32.ofInt (f (j : Nat))))) (cd := vp_cell (E.2.2.1 0) (n1, .inl (fun j => Int32.ofInt (g (j : Nat))))) (srcPos := Int32.ofInt sp) (destPos := Int32.ofInt dp) (n := Int32.ofInt mm) (by rw [hT]; exact hc0) (by rw [hT]; exact hc1)
    (fun _ h => by cases h) (fun _ h => by cases h) (fun h => by cases h) (fun h => by cases h) hk0 hk1 hkk0 hkk1 (by rfl)
    (fun z => by have := (ab_ilt hi1 hz).mp z; omega) (fun z => by have := (ab_ilt hi2 hz).mp z; omega) (fun z => by have := (ab_ilt hi3 hz).mp z; omega)
    (by rw [ab_ti hi1, ab_ti hi3]; show ¬ _ > ((arrV (E.2.2.1 0) n0 (fun j => .int (Int32.ofInt (f (j : Nat))))).slots.size : Int); rw [arrV_size]; omega)
    (by rw [ab_ti hi2, ab_ti hi3]; show ¬ _ > ((arrV (E.2.2.1 0) n1 (fun j => .int (Int32.ofInt (g (j : Nat))))).slots.size : Int); rw [arrV_size]; omega)
    (fun vm₁ _ i hi => by
      have e : (vp_cell (E.2.2.1 0) (n0, .inl (fun j => Int32.ofInt (f (j : Nat))))).slots.getD ((Int32.ofInt sp).toNatClampNeg + i) .null = .int (Int32.ofInt (f ((Int32.ofInt sp).toNatClampNeg + i : Nat))) := by
        show (arrV (E.2.2.1 0) n0 (fun j => .int (Int32.ofInt (f (j : Nat))))).slots.getD _ _ = _
        rw [Array.getD_eq_getD_getElem?, arrV_read _ _ (by rw [t1]; rw [t3] at hi; omega)]
        rfl
      refine ⟨?_, ?_⟩
      · rw [e]; rfl
      · rw [e]; exact trivial)
    (g := F0 m pc ls (.int (Int32.ofInt mm) :: .int (Int32.ofInt dp) :: .ref (ab_ad E a) :: .int (Int32.ofInt sp) :: .ref (ab_ad E a0) :: S'.map (ab_rv E))) rfl (by rw [hml, hL.1]) (rest := S'.map (ab_rv E)) rfl (by rw [hb]; exact hd) (by omega) (by
      have := ab_cats (E := E) S'
      show 2 * 0 + (_ + (nativeFrameWords "java/lang/System" "arraycopy" 5 + 11)) ≤ _
      have e : nativeFrameWords "java/lang/System" "arraycopy" 5 ≤ 19 := by decide
      rw [this]; omega)
  have e1 : copied (vp_cell (E.2.2.1 0) (n0, .inl (fun j => Int32.ofInt (f (j : Nat))))) (vp_cell (E.2.2.1 0) (n1, .inl (fun j => Int32.ofInt (g (j : Nat))))) (Int32.ofInt sp) (Int32.ofInt dp) (Int32.ofInt mm) = arrV (E.2.2.1 0) n1 (fun j => .int (Int32.ofInt (ab_cpy f g sp dp mm j))) := by
    have e := va_copied (fun z => Value.int z) (E.2.2.1 0) (E.2.2.1 0) (fun j => Int32.ofInt (f (j : Nat))) (fun j => Int32.ofInt (g (j : Nat))) (n0 := n0) (n1 := n1) (sp := sp.toNat) (dp := dp.toNat) (n := mm.toNat) (by omega)
    rw [← ab_cpyV (cA := 0) (n1 := n1) s1 s2 s3]
    unfold copied
    rw [t1, t2, t3]
    exact e
  rw [e1] at X' step
  have hl : ab_ad E a < H.size := (Array.getElem?_eq_some_iff.mp hc1).1
  have oq : ∀ q : Nat, q ≠ ab_ad E a → (H.setIfInBounds (ab_ad E a) (arrV (E.2.2.1 0) n1 (fun j => .int (Int32.ofInt (ab_cpy f g sp dp mm j)))))[q]? = H[q]? := fun q hq => by simp [Array.getElem?_setIfInBounds, Ne.symm hq]
  obtain ⟨t, b1, b2⟩ := hP p l e R s m args below meth c hC (H.setIfInBounds (ab_ad E a) (arrV (E.2.2.1 0) n1 (fun j => .int (Int32.ofInt (ab_cpy f g sp dp mm j))))) _ ls
    (ab_Rep_set hRep h6 han (by simp) oq ⟨z3, z4, by simp [Array.getElem?_setIfInBounds, hl]⟩)
    ⟨by simp; exact hS.1, fun q g1 g2 => by
      rw [oq q (fun e => g2 (by rw [e]; exact ab_loc h6))]
      exact hS.2.1 q g1 g2, fun q hq => by
      rcases List.mem_append.mp hq with h | h
      · exact hS.2.2 q h
      · obtain ⟨z, -, hz⟩ := List.mem_map.mp h
        rw [← hz]
        exact ab_loc h6⟩ hL _ (by rw [← hT]; rfl) X'
  exact ⟨t, step t b1, b2⟩
set_option maxHeartbeats 8000000 in
set_option maxRecDepth 100000 in
theorem ab_sound (E : ab_E) : ∀ k pc L S h n u Q, ab_F (ab_SW E) k pc L S h n u Q → ab_SW E k pc L S h n u Q := by
  intro k pc L S h n u Q ⟨i, len, hd, hI⟩ p l e R s m args below meth c hC
  obtain ⟨hx, hb, hr, hlk, hml, hown, hts, hnm, hKn, hdf, hdl, hdc, hds⟩ := id hC
  intro H locs ls hRep hS hL
  cases i with
  | iload_n j =>
    obtain ⟨rfl, x, hl, hP⟩ := hI
    exact lv_iload_n hx hb hd rfl (hL.2.2.2 _ _ hl) (hP p l e R s m args below meth c hC H locs ls hRep hS hL)
  | iload j =>
    obtain ⟨rfl, x, hl, hP⟩ := hI
    exact lv_iload hx hb hd (hL.2.2.2 _ _ hl) (hP p l e R s m args below meth c hC H locs ls hRep hS hL)
  | aload_n j =>
    obtain ⟨rfl, x, hl, hP⟩ := hI
    exact lv_aload_n hx hb hd rfl (hL.2.2.2 _ _ hl) (hP p l e R s m args below meth c hC H locs ls hRep hS hL)
  | aload j =>
    obtain ⟨rfl, x, hl, hP⟩ := hI
    exact lv_aload hx hb hd (hL.2.2.2 _ _ hl) (hP p l e R s m args below meth c hC H locs ls hRep hS hL)
  | lload_n j =>
    obtain ⟨rfl, x, hl, hP⟩ := hI
    exact lv_lload_n hx hb hd rfl (hL.2.2.2 _ _ hl) (hP p l e R s m args below meth c hC H locs ls hRep hS hL)
  | istore_n j =>
    obtain ⟨rfl, x, S', rfl, hj, hn, hP⟩ := hI
    obtain ⟨lv, hlv, hset⟩ := ab_LR_set (v := vi x) hL hj hn rfl
    exact lv_istore_n hx hb hd rfl hlv (by rw [← hL.2.2.1]; exact hj) rfl (fun ls' hl' => hP p l e R s m args below meth c hC H locs ls' hRep hS (hset ls' hl'))
  | istore j =>
    obtain ⟨rfl, x, S', rfl, hj, hn, hP⟩ := hI
    obtain ⟨lv, hlv, hset⟩ := ab_LR_set (v := vi x) hL hj hn rfl
    exact lv_istore hx hb hd hlv (by rw [← hL.2.2.1]; exact hj) rfl (fun ls' hl' => hP p l e R s m args below meth c hC H locs ls' hRep hS (hset ls' hl'))
  | astore_n j =>
    obtain ⟨rfl, x, S', rfl, hj, hn, hP⟩ := hI
    obtain ⟨lv, hlv, hset⟩ := ab_LR_set (v := vr x) hL hj hn rfl
    exact lv_astore_n hx hb hd rfl hlv (by rw [← hL.2.2.1]; exact hj) rfl (fun ls' hl' => hP p l e R s m args below meth c hC H locs ls' hRep hS (hset ls' hl'))
  | astore j =>
    obtain ⟨rfl, x, S', rfl, hj, hn, hP⟩ := hI
    obtain ⟨lv, hlv, hset⟩ := ab_LR_set (v := vr x) hL hj hn rfl
    exact lv_astore hx hb hd hlv (by rw [← hL.2.2.1]; exact hj) rfl (fun ls' hl' => hP p l e R s m args below meth c hC H locs ls' hRep hS (hset ls' hl'))
  | iconst x =>
    obtain ⟨rfl, hP⟩ := hI
    exact lv_iconst (v := Int32.ofInt x) hx hb hd rfl (hP p l e R s m args below meth c hC H locs ls hRep hS hL)
  | bipush x =>
    obtain ⟨rfl, hv, hP⟩ := hI
    exact lv_bipush (v := Int32.ofInt x) hx hb hd hv (hP p l e R s m args below meth c hC H locs ls hRep hS hL)
  | sipush x =>
    obtain ⟨rfl, hv, hP⟩ := hI
    exact lv_sipush (v := Int32.ofInt x) hx hb hd hv (hP p l e R s m args below meth c hC H locs ls hRep hS hL)
  | lconst x =>
    obtain ⟨rfl, hP⟩ := hI
    exact lv_lconst (v := Int64.ofNat (x : Nat)) hx hb hd rfl (hP p l e R s m args below meth c hC H locs ls hRep hS hL)
  | ldc idx =>
    obtain ⟨rfl, x, ⟨-, hc⟩, hP⟩ := hI
    exact lv_ldc hx hb hown (hts _ (ab_tin hc rfl)) hd (hP p l e R s m args below meth c hC H locs ls hRep hS hL)
  | ldc_w idx =>
    obtain ⟨rfl, x, ⟨-, hc⟩, hP⟩ := hI
    exact lv_ldcw hx hb hown (hts _ (ab_tin hc rfl)) hd (hP p l e R s m args below meth c hC H locs ls hRep hS hL)
  | ldc2_w idx =>
    obtain ⟨rfl, x, ⟨-, hc⟩, hP⟩ := hI
    exact lv_ldc2 hx hb hown (hts _ (ab_tin hc rfl)) hd (hP p l e R s m args below meth c hC H locs ls hRep hS hL)
  | iadd =>
    obtain ⟨rfl, y, x, S', rfl, hP⟩ := hI
    refine lv_iadd (x := Int32.ofInt x) (y := Int32.ofInt y) hx hb hd ?_
    rw [← Int32.ofInt_add]
    exact hP p l e R s m args below meth c hC H locs ls hRep hS hL
  | isub =>
    obtain ⟨rfl, y, x, S', rfl, hP⟩ := hI
    refine lv_isub (x := Int32.ofInt x) (y := Int32.ofInt y) hx hb hd ?_
    rw [← Int32.ofInt_sub]
    exact hP p l e R s m args below meth c hC H locs ls hRep hS hL
  | imul =>
    obtain ⟨rfl, y, x, S', rfl, hP⟩ := hI
    refine lv_imul (x := Int32.ofInt x) (y := Int32.ofInt y) hx hb hd ?_
    rw [← Int32.ofInt_mul]
    exact hP p l e R s m args below meth c hC H locs ls hRep hS hL
  | ineg =>
    obtain ⟨rfl, x, S', rfl, hP⟩ := hI
    refine lv_ineg (x := Int32.ofInt x) hx hb hd ?_
    rw [← Int32.ofInt_neg]
    exact hP p l e R s m args below meth c hC H locs ls hRep hS hL
  | idiv =>
    obtain ⟨rfl, y, x, S', rfl, h1, h2, h3, hP⟩ := hI
    refine lv_idiv (x := Int32.ofInt x) (y := Int32.ofInt y) hx hb hd (by rw [ab_i0 h3]; omega) ?_
    rw [ab_idiv h1 h2 h3]
    exact hP p l e R s m args below meth c hC H locs ls hRep hS hL
  | irem =>
    obtain ⟨rfl, y, x, S', rfl, h1, h2, h3, hP⟩ := hI
    refine lv_irem (x := Int32.ofInt x) (y := Int32.ofInt y) hx hb hd (by rw [ab_i0 h3]; omega) ?_
    rw [ab_irem h1 h2 h3]
    exact hP p l e R s m args below meth c hC H locs ls hRep hS hL
  | iand =>
    obtain ⟨rfl, x, S', rfl, hP⟩ := hI
    refine lv_iand (x := Int32.ofInt x) (y := Int32.ofInt 63) hx hb hd ?_
    rw [ab_and63]
    exact hP p l e R s m args below meth c hC H locs ls hRep hS hL
  | ixor =>
    obtain ⟨rfl, y, x, S', rfl, h1, h2, h3, hP⟩ := hI
    obtain ⟨z, z1, z2, z3⟩ := ab_ixor h1 h2 h3
    refine lv_ixor (x := Int32.ofInt x) (y := Int32.ofInt y) hx hb hd ?_
    rw [z3]
    exact hP z z1 z2 p l e R s m args below meth c hC H locs ls hRep hS hL
  | iushr =>
    obtain ⟨rfl, x, S', rfl, hP⟩ := hI
    exact lv_iushr (x := Int32.ofInt x) (y := Int32.ofInt 16) hx hb hd (ab_iush x) (hP p l e R s m args below meth c hC H locs ls hRep hS hL)
  | i2l =>
    obtain ⟨rfl, x, S', rfl, h1, hP⟩ := hI
    exact lv_i2l (x := Int32.ofInt x) hx hb hd (ab_i2l h1) (hP p l e R s m args below meth c hC H locs ls hRep hS hL)
  | i2b =>
    obtain ⟨rfl, x, S', rfl, h1, h2, hP⟩ := hI
    exact lv_i2b (x := Int32.ofInt x) hx hb hd (ab_i2b h1 h2) (hP p l e R s m args below meth c hC H locs ls hRep hS hL)
  | land =>
    obtain ⟨rfl, y, x, S', rfl, hP⟩ := hI
    exact lv_land (x := x) (y := y) hx hb hd (hP p l e R s m args below meth c hC H locs ls hRep hS hL)
  | lor =>
    obtain ⟨rfl, y, x, S', rfl, hP⟩ := hI
    exact lv_lor (x := x) (y := y) hx hb hd (hP p l e R s m args below meth c hC H locs ls hRep hS hL)
  | lshl =>
    obtain ⟨rfl, y, x, S', rfl, hP⟩ := hI
    exact lv_lshl (x := x) (y := Int32.ofInt y) hx hb hd rfl (hP p l e R s m args below meth c hC H locs ls hRep hS hL)
  | lcmp =>
    obtain ⟨rfl, y, x, S', rfl, hP⟩ := hI
    obtain ⟨z, z1, z2, z3⟩ := ab_lcmp x y
    refine W.lcmp (x := x) (y := y) hx hb hd ?_
    rw [z3]
    exact hP z z1 z2 p l e R s m args below meth c hC H locs ls hRep hS hL
  | dup =>
    obtain ⟨rfl, v, S', rfl, hv, hP⟩ := hI
    exact lv_dup (va := ab_rv E v) hx hb hd (by rw [ab_catv]; exact hv) (hP p l e R s m args below meth c hC H locs ls hRep hS hL)
  | pop =>
    obtain ⟨rfl, v, S', rfl, hv, hP⟩ := hI
    exact lv_pop (va := ab_rv E v) hx hb hd (by rw [ab_catv]; exact hv) (hP p l e R s m args below meth c hC H locs ls hRep hS hL)
  | iinc j d =>
    obtain ⟨rfl, x, hj, hn, hP⟩ := hI
    obtain ⟨lv, hlv, hset⟩ := ab_LR_inc (v := vi (x + d)) hL hj hn rfl
    exact lv_iinc (v := Int32.ofInt (x + d)) (k := 0) hx hb hd hlv rfl (Int32.ofInt_add x d).symm (by rw [← hL.2.2.1]; exact (List.getElem?_eq_some_iff.mp hj).1) rfl (fun ls' hl' => hP p l e R s m args below meth c hC H locs ls' hRep hS (hset ls' hl'))
  | goto off =>
    obtain ⟨rfl, t, ht, hP⟩ := hI
    exact lv_goto hx hb hd ht (hP p l e R s m args below meth c hC H locs ls hRep hS hL)
  | ifCond cd off =>
    obtain ⟨rfl, x, S', rfl, h1, t, ht, hPt, hPf⟩ := hI
    have kt := fun hc => hPt hc p l e R s m args below meth c hC H locs ls hRep hS hL
    have kf := fun hc => hPf hc p l e R s m args below meth c hC H locs ls hRep hS hL
    have hz : ab_inR 0 := by omega
    cases cd with
    | eq => exact lv_if_eq (x := Int32.ofInt x) hx hb hd ht (fun z => kt ((ab_i0 h1).mp z)) (fun z => kf (fun y => z ((ab_i0 h1).mpr y)))
    | ne => exact lv_if_ne (x := Int32.ofInt x) hx hb hd ht (fun z => kt (fun y => z ((ab_i0 h1).mpr y))) (fun z => kf (fun y => y ((ab_i0 h1).mp z)))
    | lt => exact lv_if_lt (x := Int32.ofInt x) hx hb hd ht (fun z => kt ((ab_ilt h1 hz).mp z)) (fun z => kf (fun y => z ((ab_ilt h1 hz).mpr y)))
    | ge => exact lv_if_ge (x := Int32.ofInt x) hx hb hd ht (fun z => kt ((ab_ile hz h1).mp z)) (fun z => kf (fun y => z ((ab_ile hz h1).mpr y)))
    | gt => exact lv_if_gt (x := Int32.ofInt x) hx hb hd ht (fun z => kt ((ab_ilt hz h1).mp z)) (fun z => kf (fun y => z ((ab_ilt hz h1).mpr y)))
    | le => exact lv_if_le (x := Int32.ofInt x) hx hb hd ht (fun z => kt ((ab_ile h1 hz).mp z)) (fun z => kf (fun y => z ((ab_ile h1 hz).mpr y)))
  | if_icmp cd off =>
    obtain ⟨rfl, y, x, S', rfl, h1, h2, t, ht, hPt, hPf⟩ := hI
    have kt := fun hc => hPt hc p l e R s m args below meth c hC H locs ls hRep hS hL
    have kf := fun hc => hPf hc p l e R s m args below meth c hC H locs ls hRep hS hL
    cases cd with
    | eq => exact lv_icmp_eq (x := Int32.ofInt x) (y := Int32.ofInt y) hx hb hd ht (fun z => kt ((ab_ieq h1 h2).mp z)) (fun z => kf (fun y => z ((ab_ieq h1 h2).mpr y)))
    | ne => exact lv_icmp_ne (x := Int32.ofInt x) (y := Int32.ofInt y) hx hb hd ht (fun z => kt (fun y => z ((ab_ieq h1 h2).mpr y))) (fun z => kf (fun y => y ((ab_ieq h1 h2).mp z)))
    | lt => exact lv_icmp_lt (x := Int32.ofInt x) (y := Int32.ofInt y) hx hb hd ht (fun z => kt ((ab_ilt h1 h2).mp z)) (fun z => kf (fun y => z ((ab_ilt h1 h2).mpr y)))
    | ge => exact lv_icmp_ge (x := Int32.ofInt x) (y := Int32.ofInt y) hx hb hd ht (fun z => kt ((ab_ile h2 h1).mp z)) (fun z => kf (fun y => z ((ab_ile h2 h1).mpr y)))
    | gt => exact lv_icmp_gt (x := Int32.ofInt x) (y := Int32.ofInt y) hx hb hd ht (fun z => kt ((ab_ilt h2 h1).mp z)) (fun z => kf (fun y => z ((ab_ilt h2 h1).mpr y)))
    | le => exact lv_icmp_le (x := Int32.ofInt x) (y := Int32.ofInt y) hx hb hd ht (fun z => kt ((ab_ile h1 h2).mp z)) (fun z => kf (fun y => z ((ab_ile h1 h2).mpr y)))
  | tableswitch d lo hi offs =>
    obtain ⟨x, S', rfl, h1, hPo, hPi⟩ := hI
    by_cases hc : x < lo ∨ hi < x
    · obtain ⟨t, ht, hP⟩ := hPo hc
      exact lv_tableOut (x := Int32.ofInt x) hx hb hd (by rw [ab_ti h1]; exact hc) ht (hP p l e R s m args below meth c hC H locs ls hRep hS hL)
    · obtain ⟨o, t, ho, ht, hP⟩ := hPi hc
      exact lv_tableIn (x := Int32.ofInt x) hx hb hd (by rw [ab_ti h1]; omega) (by rw [ab_ti h1]; omega) (by rw [ab_ti h1]; exact ho) ht (hP p l e R s m args below meth c hC H locs ls hRep hS hL)
  | lookupswitch d ps =>
    obtain ⟨x, S', rfl, h1, hp, t, ht, hP⟩ := hI
    exact lv_lookup (x := Int32.ofInt x) hx hb hd hp (by rw [ab_ti h1]) ht (hP p l e R s m args below meth c hC H locs ls hRep hS hL)
  | ireturn =>
    obtain ⟨rfl, hu1, hu2, x, rfl, hret, hq⟩ := hI
    refine W.widen hu1 hu2 ?_
    rcases hret with hret | ⟨hret, hx01⟩
    · exact W.iret (v := Int32.ofInt x) hx hb (hr.trans hret) (fun t ht hW => ⟨⟨some (vi x), h, n, rfl, hq, by rw [ht]; exact hRep⟩, hS.F ht⟩) hS.2.2 hd hlk
    · exact W.zret (v := Int32.ofInt x) (ty := .boolean) hx hb (hr.trans hret) (by rcases hx01 with rfl | rfl <;> rfl) (fun t ht hW => ⟨⟨some (vi x), h, n, rfl, hq, by rw [ht]; exact hRep⟩, hS.F ht⟩) hS.2.2 hd hlk
  | lreturn =>
    obtain ⟨rfl, hu1, hu2, hret, x, rfl, hq⟩ := hI
    refine W.widen hu1 hu2 ?_
    exact W.lret (v := x) hx hb (hr.trans hret) (fun t ht hW => ⟨⟨some (vl x), h, n, rfl, hq, by rw [ht]; exact hRep⟩, hS.F ht⟩) hS.2.2 hd hlk
  | areturn =>
    obtain ⟨rfl, hu1, hu2, ⟨C, hret⟩, x, rfl, hq⟩ := hI
    refine W.widen hu1 hu2 ?_
    exact W.aret (v := .ref (ab_ad E x)) hx hb (hr.trans hret) (Or.inl ⟨C, rfl⟩) (Or.inr ⟨_, rfl⟩) (fun t ht hW => ⟨⟨some (vr x), h, n, rfl, hq, by rw [ht]; exact hRep⟩, hS.F ht⟩) hS.2.2 hd hlk
  | return_ =>
    obtain ⟨rfl, hu1, hu2, hret, rfl, hq⟩ := hI
    refine W.widen hu1 hu2 ?_
    exact W.vret hx hb (hr.trans hret) (fun t ht hW => ⟨⟨none, h, n, rfl, hq, by rw [ht]; exact hRep⟩, hS.F ht⟩) hS.2.2 hd hlk
  | getstatic idx =>
    obtain ⟨rfl, i, h1, h2, -, hl, hP⟩ := hI
    have hZ := hKn.2.2.2.2 i h1 h2
    have hA := va_Z.narrow (B := fun q => E.1 ≤ q) hZ (fun _ z => z)
    have e0 : ab_rv E (vr i) = .ref (E.2.2.2.1 i) := by show Value.ref (ab_ad E i) = _; rw [ab_ad, if_pos h2]
    have w := hP p l e R s m args below meth c hC H locs ls hRep hS hL
    rw [List.map_cons, e0] at w
    rcases hl with hl | ⟨host, hl⟩
    · exact va_gets hx hb hZ hS hown (hts _ (ab_tin hl rfl)) (fun _ z => z) hd w
    · exact va_getsN hx hb hZ hS hown (va_Nw.use rfl (hKn.2.2.1 _ hl rfl)) (fun _ z => z) hd w
  | getfield idx =>
    obtain ⟨rfl, a, S', ci, fs, kf, v, rfl, ha, h6, hf, hv, hP⟩ := hI
    exact ab_get hx hb hts hown hKn hRep ha h6 hf.2 hv hd (hP p l e R s m args below meth c hC H locs ls hRep hS hL)
  | putfield idx =>
    obtain ⟨rfl, v, a, S', ci, fs, kf, rfl, ha, h6, hf, hl, hfit, hP⟩ := hI
    exact ab_put hx hb hts hown hKn hRep hS ha h6 (by rw [hnm]; exact hf.2) hl hfit hd (fun H1 locs1 hR1 hS1 => hP p l e R s m args below meth c hC H1 locs1 ls hR1 hS1 hL)
  | arraylength =>
    obtain ⟨rfl, a, S', cl, m0, rfl, ha, hm, hP⟩ := hI
    have w := hP p l e R s m args below meth c hC H locs ls hRep hS hL
    have key : ∃ cell : Cell, ∃ ty, H[ab_ad E a]? = some cell ∧ s.isArrayOf cell ty ∧ cell.slots.size = m0 := by
      rcases cl with ⟨ci, fs⟩ | ⟨t, m1, f⟩ | ⟨m1, f⟩ | ⟨t, m1, f⟩
      · cases hm
      · cases hm
        by_cases h6 : 6 ≤ a
        · obtain ⟨-, g1, g2, g3⟩ := hRep.2.2.2 a _ h6 ha
          exact ⟨_, _, g3, (ab_arrof hKn (t := t) (by omega)).1 _ _, arrV_size _ _ _⟩
        · have h0 := hRep.2.2.1 a (by omega)
          rw [ha] at h0
          have et : t = 0 := by cases h0; rfl
          subst et
          obtain ⟨cell, g1, g2, -, g3, -⟩ := ab_intarr hKn hRep hS ha
          exact ⟨cell, _, g1, g2, g3⟩
      · cases hm
        by_cases h6 : 6 ≤ a
        · obtain ⟨-, g1, g2⟩ := hRep.2.2.2 a _ h6 ha
          exact ⟨_, _, g2, (ab_arrof hKn (t := 3) (by omega)).1 _ _, arrV_size _ _ _⟩
        · have h0 := hRep.2.2.1 a (by omega)
          rw [ha] at h0
          cases h0
      · cases hm
        by_cases h6 : 6 ≤ a
        · obtain ⟨-, g1, g2, g3, g4⟩ := hRep.2.2.2 a _ h6 ha
          exact ⟨_, _, g4, (ab_arrof hKn (t := t) (by omega)).1 _ _, arrV_size _ _ _⟩
        · have h0 := hRep.2.2.1 a (by omega)
          rw [ha] at h0
          cases h0
    obtain ⟨cell, ty, g1, g2, g3⟩ := key
    exact W.alen (n := Int32.ofInt m0) hx hb g1 g2 (by rw [g3]; exact ab_ofNat m0) rfl rfl hd w
  | iaload =>
    obtain ⟨rfl, i, a, S', m0, f, rfl, ha, h0, hi, hP⟩ := hI
    obtain ⟨cell, g1, g2, g3, g4, g5, g6⟩ := ab_intarr hKn hRep hS ha
    have hit : (Int32.ofInt i).toNatClampNeg = i.toNat := ab_icl h0 (by omega)
    exact W.iald (v := .int (Int32.ofInt (f i))) hx hb g1 g2 g3 (by rw [g4]; exact ab_iin h0 hi g5) (by rw [hit, g6 _ (by omega), Int.toNat_of_nonneg h0]) rfl rfl hd (hP p l e R s m args below meth c hC H locs ls hRep hS hL)
  | baload =>
    obtain ⟨rfl, i, a, S', t, m0, f, rfl, ha, h6, ht, h0, hi, hP⟩ := hI
    obtain ⟨-, g1, g2, g3⟩ := hRep.2.2.2 a _ h6 ha
    have hit : (Int32.ofInt i).toNatClampNeg = i.toNat := ab_icl h0 (by omega)
    have w := hP p l e R s m args below meth c hC H locs ls hRep hS hL
    rcases ht with rfl | rfl
    · exact W.bald (v := .int (Int32.ofInt (f i))) hx hb g3 ((ab_arrof hKn (t := 1) (by omega)).1 _ _) (fun q => by cases q) (by rw [arrV_size]; exact ab_iin h0 hi g2) (by rw [hit, arrV_read _ _ (by omega), Int.toNat_of_nonneg h0]) rfl rfl hd w
    · exact W.zald (v := .int (Int32.ofInt (f i))) hx hb g3 ((ab_arrof hKn (t := 2) (by omega)).1 _ _) (fun q => by cases q) (by rw [arrV_size]; exact ab_iin h0 hi g2) (by rw [hit, arrV_read _ _ (by omega), Int.toNat_of_nonneg h0]) rfl rfl hd w
  | laload =>
    obtain ⟨rfl, i, a, S', m0, f, rfl, ha, h6, h0, hi, hP⟩ := hI
    obtain ⟨-, g2, g3⟩ := hRep.2.2.2 a _ h6 ha
    have hit : (Int32.ofInt i).toNatClampNeg = i.toNat := ab_icl h0 (by omega)
    exact W.lald (v := .long (f i)) hx hb g3 ((ab_arrof hKn (t := 3) (by omega)).1 _ _) (fun q => by cases q) (by rw [arrV_size]; exact ab_iin h0 hi g2) (by rw [hit, arrV_read _ _ (by omega), Int.toNat_of_nonneg h0]) rfl rfl hd (hP p l e R s m args below meth c hC H locs ls hRep hS hL)
  | aaload =>
    obtain ⟨rfl, i, a, S', t, m0, f, rfl, ha, h6, h0, hi, hP⟩ := hI
    obtain ⟨-, t1, t2, g2, g3⟩ := hRep.2.2.2 a _ h6 ha
    have hit : (Int32.ofInt i).toNatClampNeg = i.toNat := ab_icl h0 (by omega)
    have hty : (ab_ety t).isReference = true := by
      have : t = 4 ∨ t = 5 ∨ t = 6 := by omega
      rcases this with rfl | rfl | rfl <;> rfl
    exact W.aald (v := ab_rv E (vo (f i))) hx hb g3 ((ab_arrof hKn (t := t) (by omega)).1 _ _) hty (fun q => by cases q) (by rw [arrV_size]; exact ab_iin h0 hi g2) (by rw [hit, arrV_read _ _ (by omega), Int.toNat_of_nonneg h0]) rfl rfl hd (hP p l e R s m args below meth c hC H locs ls hRep hS hL)
  | iastore =>
    obtain ⟨rfl, x, i, a, S', m0, f, rfl, ha, h6, h0, hi, hP⟩ := hI
    obtain ⟨han, g1, g2, g3⟩ := hRep.2.2.2 a _ h6 ha
    refine W.iast (x := Int32.ofInt x) (j := Int32.ofInt i) hx hb g3 ((ab_arrof hKn (t := 0) (by omega)).1 _ _) (fun q => by cases q) (by rw [arrV_size]; exact ab_iin h0 hi g2) rfl rfl hd fun H1 e1 z oq => ?_
    rw [ab_stI h0 (by omega)] at e1
    exact hP p l e R s m args below meth c hC H1 _ ls (ab_Rep_set hRep h6 han z oq ⟨g1, g2, e1⟩) (hS.put z oq (ab_loc h6)) hL
  | bastore =>
    obtain ⟨rfl, x, i, a, S', t, m0, f, rfl, ha, h6, ht, h0, hi, hP⟩ := hI
    obtain ⟨han, g1, g2, g3⟩ := hRep.2.2.2 a _ h6 ha
    rcases ht with ⟨rfl, x1, x2⟩ | ⟨rfl, x01⟩
    · refine W.bast (x := Int32.ofInt x) (j := Int32.ofInt i) hx hb g3 ((ab_arrof hKn (t := 1) (by omega)).1 _ _) (fun q => by cases q) (by rw [arrV_size]; exact ab_iin h0 hi g2) rfl rfl hd fun H1 e1 z oq => ?_
      have ex : narrow .byte (.int (Int32.ofInt x)) = .int (Int32.ofInt x) := by show Value.int _ = _; rw [ab_i2b x1 x2]
      rw [ex, ab_stI h0 (by omega)] at e1
      exact hP p l e R s m args below meth c hC H1 _ ls (ab_Rep_set hRep h6 han z oq ⟨g1, g2, e1⟩) (hS.put z oq (ab_loc h6)) hL
    · refine W.zast (x := Int32.ofInt x) (j := Int32.ofInt i) hx hb g3 ((ab_arrof hKn (t := 2) (by omega)).1 _ _) (fun q => by cases q) (by rw [arrV_size]; exact ab_iin h0 hi g2) rfl rfl hd fun H1 e1 z oq => ?_
      have ex : narrow .boolean (.int (Int32.ofInt x)) = .int (Int32.ofInt x) := by rcases x01 with rfl | rfl <;> rfl
      rw [ex, ab_stI h0 (by omega)] at e1
      exact hP p l e R s m args below meth c hC H1 _ ls (ab_Rep_set hRep h6 han z oq ⟨g1, g2, e1⟩) (hS.put z oq (ab_loc h6)) hL
  | lastore =>
    obtain ⟨rfl, x, i, a, S', m0, f, rfl, ha, h6, h0, hi, hP⟩ := hI
    obtain ⟨han, g2, g3⟩ := hRep.2.2.2 a _ h6 ha
    refine W.last (x := x) (j := Int32.ofInt i) hx hb g3 ((ab_arrof hKn (t := 3) (by omega)).1 _ _) (fun q => by cases q) (by rw [arrV_size]; exact ab_iin h0 hi g2) rfl rfl hd fun H1 e1 z oq => ?_
    rw [ab_stL h0 (by omega)] at e1
    exact hP p l e R s m args below meth c hC H1 _ ls (ab_Rep_set hRep h6 han z oq ⟨g2, e1⟩) (hS.put z oq (ab_loc h6)) hL
  | aastore =>
    obtain ⟨rfl, b, i, a, S', t, m0, f, ci, fs, Ec, C, Tt, N, rfl, ha, h6, hb0, hb6, het, hcl, hce, h0, hi, hP⟩ := hI
    obtain ⟨han, t1, t2, g2, g3⟩ := hRep.2.2.2 a _ h6 ha
    obtain ⟨hbn, C', T', N', q1, q2, q3⟩ := hRep.2.2.2 b _ hb6 hb0
    cases hcl.symm.trans q1
    obtain ⟨cellV, v1, v2, v3, -⟩ := q3
    have hA := ab_arrof hKn (t := t) (by omega)
    rw [het] at hA
    obtain ⟨hAr, kA, comp, k1, k2, k3, -⟩ := hA
    obtain ⟨hSl, hfc, kC, hkC, hkind⟩ := hKn.1.1 ci _ hcl
    obtain ⟨kE, hkE, -⟩ := Vm.findClass_spec k3
    have hass : s.vm.assignable (E.2.1.1 ci) comp = true := by
      rcases hce with rfl | hce
      · cases hfc.symm.trans k3
        exact va_assign ⟨hfc, kC, hkC, hkind⟩
      · obtain ⟨c0, t1', f1, f2, f3⟩ := Cond.castable_spec (va_Nw.use (A := args) rfl (hKn.2.2.1 _ hce rfl))
        cases hfc.symm.trans f1
        cases k3.symm.trans f2
        exact f3
    refine W.aast (j := Int32.ofInt i) (v := ab_ad E b) (t := .object Ec) hx hb g3 (fun q h => by cases h) (fun h => by cases h) k1 k2 rfl hkE ⟨?_, ?_⟩ v1 (fun q h => by rw [v3] at h; cases h) (by rw [v2]; exact hkC) (by rw [v2]; exact hass) rfl rfl hd fun H1 e1 z oq => ?_
    · exact fun z => ab_iin h0 hi g2 (Or.inl z)
    · rw [arrV_size]; exact Nat.not_le.mp fun z => ab_iin h0 hi g2 (Or.inr z)
    · rw [ab_stR h0 (by omega)] at e1
      exact hP p l e R s m args below meth c hC H1 _ ls (ab_Rep_set hRep h6 han z oq ⟨t1, t2, g2, e1⟩) (hS.put z oq (ab_loc h6)) hL
  | new idx =>
    obtain ⟨rfl, ci, N, ⟨-, C, Tt, hcl, c1, c2, c3⟩, hu1, hu2, hP⟩ := hI
    obtain ⟨hin, hty, hnmm⟩ := ab_cls hcl
    have hKc := hKn.1.1 ci _ hcl
    have hnx := ab_next hRep
    refine W.newcK (C := C) (n := N) (h := H.size) hx hb hown (hts _ (ab_tin c1 rfl)) (hts _ (ab_tin c2 rfl)) (hts _ (ab_tin c3 rfl)) rfl hd (Nat.le_trans hu1 hdc) (Nat.le_trans hu2 hds) hKc.2.1 rfl fun H1 kC hkC e1 z1 o1 => ?_
    have hob := u_born (ab_tyf ci) hts hin hKc hkC e1 hty
    have w := hP p l e R s m args below meth c hC H1 locs ls (ab_Rep_push hRep z1 o1 ⟨C, Tt, N, hcl, by simp [ab_dfs], by
      rw [hnx]
      refine hob.to fun j hj => ?_
      show _ = ((ab_dfs ci N).map (ab_rv E)).getD j .null
      rw [ab_dfs, List.map_map, List.getD_eq_getElem?_getD, List.getElem?_map, List.getElem?_range hj]
      show _ = ab_rv E (ab_dv (ab_tyf ci j))
      have hdv := ab_tyok hcl hj
      rcases hdv with e | e | ⟨z, e⟩ | ⟨z, e⟩ <;> rw [e] <;> rfl⟩) ⟨by rw [z1]; have := hS.1; omega, fun q h1 h2 => (o1 q (Nat.lt_of_lt_of_le h1 hS.1)).trans (hS.2.1 q h1 h2), hS.2.2⟩ hL
    rw [List.map_cons, show ab_rv E (vr n) = .ref H.size from congrArg Value.ref hnx] at w
    exact w
  | newarray t =>
    obtain ⟨rfl, m0, cl, S', rfl, hm0, hna, hu1, hu2, hP⟩ := hI
    have hnx := ab_next hRep
    have hnat : (Int32.ofInt (m0 : Int)).toNatClampNeg = m0 := by rw [ab_icl (by omega) (by omega)]; rfl
    have hneg : ¬ Int32.ofInt (m0 : Int) < 0 := fun z => by
      have := (ab_ilt (x := (m0 : Int)) (y := 0) ⟨by omega, by omega⟩ (by omega)).mp z
      omega
    have key : ∃ tn, tn ≤ 3 ∧ newarray.typeOf t = ab_ety tn ∧ (Cond.arrayClass (newarray.typeOf t)) ∈ lw_tbl ∧ m0 * componentBytes (newarray.typeOf t) ≤ 536870912 ∧ ∀ H1 : Heap, H1[H.size]? = some (arrV (E.2.2.1 tn) m0 (fun _ => defaultValue (newarray.typeOf t))) → ab_cell E n cl H1 := by
      cases t <;> first
        | (cases hna; done)
        | (cases hna
           first
             | exact ⟨0, by omega, rfl, ab_acI, by show m0 * 4 ≤ _; omega, fun H1 e => ⟨by omega, hm0, by rw [hnx]; exact e⟩⟩
             | exact ⟨1, by omega, rfl, ab_acB, by show m0 * 1 ≤ _; omega, fun H1 e => ⟨by omega, hm0, by rw [hnx]; exact e⟩⟩
             | exact ⟨2, by omega, rfl, ab_acZ, by show m0 * 1 ≤ _; omega, fun H1 e => ⟨by omega, hm0, by rw [hnx]; exact e⟩⟩
             | exact ⟨3, by omega, rfl, ab_acJ, by show m0 * 8 ≤ _; omega, fun H1 e => ⟨hm0, by rw [hnx]; exact e⟩⟩)
    obtain ⟨tn, htn, hty, hac, hby, hcell⟩ := key
    refine va_newaK hx hb (hts _ (ab_tin hac rfl)) rfl hd (n := Int32.ofInt (m0 : Int)) (N := m0) rfl hneg hnat hby (Nat.le_trans hu1 hdc) (Nat.le_trans hu2 hds) (h := H.size) rfl fun H1 cA e1 z1 o1 hAr hNm => ?_
    have hRA := (ab_arrof hKn (t := tn) (by omega)).2
    have hcA : cA = E.2.2.1 tn := by
      rw [hty] at hNm
      have : s.vm.findClass ("[" ++ (ab_ety tn).toString) = some (E.2.2.1 tn) := by
        have h3 : tn = 0 ∨ tn = 1 ∨ tn = 2 ∨ tn = 3 := by omega
        rcases h3 with rfl | rfl | rfl | rfl <;> exact hRA
      exact Option.some.inj (hNm.symm.trans this)
    subst hcA
    have w := hP p l e R s m args below meth c hC H1 locs ls (ab_Rep_push hRep z1 o1 (hcell H1 e1)) ⟨by rw [z1]; have := hS.1; omega, fun q h1 h2 => (o1 q (Nat.lt_of_lt_of_le h1 hS.1)).trans (hS.2.1 q h1 h2), hS.2.2⟩ hL
    rw [List.map_cons, show ab_rv E (vr n) = .ref H.size from congrArg Value.ref hnx] at w
    exact w
  | anewarray idx =>
    obtain ⟨rfl, m0, t, Ec, S', rfl, hm0, ht, het, hcl, hov, hu1, hu2, hP⟩ := hI
    have hnx := ab_next hRep
    have hnat : (Int32.ofInt (m0 : Int)).toNatClampNeg = m0 := by rw [ab_icl (by omega) (by omega)]; rfl
    have hneg : ¬ Int32.ofInt (m0 : Int) < 0 := fun z => by
      have := (ab_ilt (x := (m0 : Int)) (y := 0) ⟨by omega, by omega⟩ (by omega)).mp z
      omega
    refine W.anew (n := Int32.ofInt (m0 : Int)) hx hb hown (hts _ (ab_tin hcl rfl)) (va_AO.use (hKn.2.2.1 _ hov rfl)) rfl hd rfl hneg (by rw [hnat]; omega) (Nat.le_trans hu1 hdc) (by rw [hnat]; exact Nat.le_trans hu2 hds) fun cA kA comp f1 f2 f3 f4 => ?_
    rw [hnat]
    generalize hH1 : H.push ({ cls := cA, slots := Array.replicate m0 .null, vm := .none } : Cell) = H1
    have z1 : H1.size = H.size + 1 := by rw [← hH1, Array.size_push]
    have e1 : H1[H.size]? = some (arrV cA m0 (fun _ => .null)) := by rw [← hH1, Array.getElem?_push_size, ← arrV_new]
    have o1 : ∀ q : Nat, q < H.size → H1[q]? = H[q]? := fun q hq => by rw [← hH1, Array.getElem?_push, if_neg (Nat.ne_of_lt hq)]
    have hRA := (ab_arrof hKn (t := t) (by omega)).2
    rw [het] at hRA
    obtain ⟨kA2, comp2, r1, r2, r3, r4⟩ := hRA
    have hcA : cA = E.2.2.1 t := Option.some.inj (f1.symm.trans r4)
    subst hcA
    have w := hP p l e R s m args below meth c hC H1 locs ls (ab_Rep_push hRep z1 o1 ⟨by omega, by omega, hm0, by rw [hnx]; exact e1⟩) ⟨by rw [z1]; have := hS.1; omega, fun q h1 h2 => (o1 q (Nat.lt_of_lt_of_le h1 hS.1)).trans (hS.2.1 q h1 h2), hS.2.2⟩ hL
    rw [List.map_cons, show ab_rv E (vr n) = .ref H.size from congrArg Value.ref hnx] at w
    exact w
  | multianewarray idx d => exact ab_mna2 hC hRep hS hL hd hI
  | invokestatic idx =>
    obtain ⟨rfl, hI⟩ := hI
    rcases hI with ⟨j, As, rest, rfl, ⟨-, hok, hst, hln⟩, hcall⟩ | hI
    · obtain ⟨hcat, hsl, hdp, hu1, hu2, Rq, hP, hnext⟩ := hcall
      obtain ⟨hMH, har, hcode, hini, hml19, hpl⟩ := hok
      have hM := ab_met hpl hsl hP l
      have hrun : va_Run p l e R s m args below meth c H locs u.1 u.2 (ab_cost j).1 (ab_cost j).2 (F0 m pc ls ((As.reverse ++ rest).map (ab_rv E))) (rest.map (ab_rv E)) (ab_Qc E Rq (As.map (ab_rv E)).toArray) (fun q => E.1 ≤ q) := by
        rcases hln with hln | ⟨host, hln⟩
        · exact va_runS ⟨hx, hb, hml, hown, hts⟩ hM ⟨callB_of As.length hts (ab_ws j hcode) rfl rfl rfl (hts _ (ab_tin hini rfl)) (hts _ (ab_tin hln rfl)) ⟨hMH.1, hMH.2, har⟩ ⟨by show ab_dep j + 1 ≤ _; omega, by show 8 + (ab_maxL j + 11) + 38 * ab_dep j ≤ _; omega⟩, hts _ (ab_tin hst rfl)⟩
            ⟨ab_blind, fun U hU hW => ⟨rfl, ab_Kn_warm hS hU hW hKn, by rw [hU]; exact hRep⟩⟩ rfl (by rw [List.length_map]) (by rw [hL.1]) (by rw [List.map_append, List.map_reverse]) (lv_room (by rw [ab_cats]; exact hcat)) hd ⟨Nat.le_trans hu1 hdc, Nat.le_trans hu2 hds⟩
        · exact va_runSN ⟨hx, hb, hml, hown, hts⟩ hM ⟨va_cnB As.length hts (ab_ws j hcode) rfl rfl rfl (hKn.2.2.1 _ hln rfl) (hts _ (ab_tin hini rfl)) ⟨hMH.1, hMH.2, har⟩ ⟨by show ab_dep j + 1 ≤ _; omega, by show 8 + (ab_maxL j + 11) + 38 * ab_dep j ≤ _; omega⟩, hts _ (ab_tin hst rfl), trivial⟩
            ⟨ab_blind, fun U hU hW => ⟨rfl, ab_Kn_warm hS hU hW hKn, by rw [hU]; exact hRep⟩⟩ rfl (by rw [List.length_map]) (by rw [hL.1]) (by rw [List.map_append, List.map_reverse]) (lv_room (by rw [ab_cats]; exact hcat)) hd ⟨Nat.le_trans hu1 hdc, Nat.le_trans hu2 hds⟩
      refine ab_fin hrun hS fun r h' n' H1 locs1 hq hR1 hS1 => ?_
      rw [ab_tol]
      exact hnext r h' n' hq p l e R s m args below meth c hC H1 locs1 ls hR1 hS1 hL
    · exact ab_acopy hC hRep hS hL hd hI
  | invokevirtual idx =>
    obtain ⟨rfl, j, As, b, rest, ci, fs, rfl, hb0, hb6, ⟨-, hok, hin, C, Tt, N, hcl, hsel⟩, hcall⟩ := hI
    obtain ⟨hcat, hsl, hdp, hu1, hu2, Rq, hP, hnext⟩ := hcall
    obtain ⟨hMH, har, hcode, hini, hml19, hpl⟩ := hok
    have hM := ab_met hpl hsl hP l
    obtain ⟨hbn, C', T', N', q1, q2, q3⟩ := hRep.2.2.2 b _ hb6 hb0
    cases hcl.symm.trans q1
    obtain ⟨cellB, v1, v2, v3, -⟩ := q3
    have hfc := (hKn.1.1 ci _ hcl).2.1
    have hpre : PreV s H C (ab_ad E b) (ab_Pc E (vr b :: As) h n) (As.map (ab_rv E)) := ⟨ab_blind, ⟨cellB, v1, by rw [v3]; rfl, by rw [v2]; exact hfc⟩, fun U hU hW => ⟨rfl, ab_Kn_warm hS hU hW hKn, by rw [hU]; exact hRep⟩⟩
    have hrun : va_Run p l e R s m args below meth c H locs u.1 u.2 (ab_cost j).1 (ab_cost j).2 (F0 m pc ls ((As.reverse ++ vr b :: rest).map (ab_rv E))) (rest.map (ab_rv E)) (ab_Qc E Rq (Value.ref (ab_ad E b) :: As.map (ab_rv E)).toArray) (fun q => E.1 ≤ q) := by
      rcases hsel with ⟨hln, hsel⟩ | ⟨xx, owner, b0, m0, r0, x1, x2, x3, x4, x5, x6, x7⟩
      · rcases hln with hln | ⟨host, hln⟩
        · exact va_runV ⟨hx, hb, hml, hown, hts⟩ hM ⟨callB_of As.length hts (ab_ws j hcode) rfl rfl rfl (hts _ (ab_tin hini rfl)) (hts _ (ab_tin hln rfl)) ⟨hMH.1, hMH.2, har⟩ ⟨by show ab_dep j + 1 ≤ _; omega, by show 8 + (ab_maxL j + 11) + 38 * ab_dep j ≤ _; omega⟩, hts _ (ab_tin hin rfl), hts _ (ab_tin hsel rfl)⟩
            hpre rfl (by rw [List.length_map]) (by rw [hL.1]) (by rw [List.map_append, List.map_reverse]; rfl) (lv_room (by rw [ab_cats]; exact hcat)) hd ⟨Nat.le_trans hu1 hdc, Nat.le_trans hu2 hds⟩
        · exact va_runVN ⟨hx, hb, hml, hown, hts⟩ hM ⟨va_cnB As.length hts (ab_ws j hcode) rfl rfl rfl (hKn.2.2.1 _ hln rfl) (hts _ (ab_tin hini rfl)) ⟨hMH.1, hMH.2, har⟩ ⟨by show ab_dep j + 1 ≤ _; omega, by show 8 + (ab_maxL j + 11) + 38 * ab_dep j ≤ _; omega⟩, hts _ (ab_tin hin rfl), hts _ (ab_tin hsel rfl)⟩
            hpre rfl (by rw [List.length_map]) (by rw [hL.1]) (by rw [List.map_append, List.map_reverse]; rfl) (lv_room (by rw [ab_cats]; exact hcat)) hd ⟨Nat.le_trans hu1 hdc, Nat.le_trans hu2 hds⟩
      · exact va_runU ⟨hx, hb, hml, hown, hts⟩ hM (va_cwO As.length hts (ab_good fun w hw => by
            rcases List.mem_append.mp hw with hw | hw
            · simp only [List.mem_cons, List.not_mem_nil, or_false] at hw
              rcases hw with rfl | rfl | rfl | rfl | rfl | rfl
              · exact ab_tin x1 rfl
              · exact ab_tin x2 rfl
              · exact ab_tin x3 rfl
              · exact ab_tin x4 rfl
              · exact ab_tin hin rfl
              · exact ab_tin hini rfl
            · exact (ab_ws j hcode w hw).1) rfl rfl rfl (ab_tin x5 rfl) ⟨x6.1, x6.2, x7⟩ ⟨by show ab_dep j + 1 ≤ _; omega, by show 8 + (ab_maxL j + 11) + 38 * ab_dep j ≤ _; omega⟩)
            hpre rfl (by rw [List.length_map]) (by rw [hL.1]) (by rw [List.map_append, List.map_reverse]; rfl) (lv_room (by rw [ab_cats]; exact hcat)) hd ⟨Nat.le_trans hu1 hdc, Nat.le_trans hu2 hds⟩
    refine ab_fin hrun hS fun r h' n' H1 locs1 hq hR1 hS1 => ?_
    rw [ab_tol]
    exact hnext r h' n' hq p l e R s m args below meth c hC H1 locs1 ls hR1 hS1 hL
  | invokespecial idx =>
    obtain ⟨rfl, hI⟩ := hI
    rcases hI with ⟨b, rest, rfl, ⟨-, hln⟩, hcat, hdp, hP⟩ | ⟨j, As, b, rest, rfl, ⟨-, hok, hin, hnam, hret, hln⟩, hcall⟩ | ⟨j, As, b, rest, ci, fs, rfl, hb0, hb6, ⟨-, hok, sup, l1, l2, l3, l4, l5, l6⟩, ⟨C, Tt, N, hcl⟩, hcall⟩
    · refine W.objInit hx hb hown (hts _ (ab_tin hln rfl)) (hts _ (ab_tin ab_oi1 rfl)) (hts _ (ab_tin ab_oi2 rfl)) rfl (by rw [hml]; exact hL.1) rfl hd (by omega) ?_ ?_
      · have := ab_cats (E := E) rest
        show 2 * 0 + _ + 12 ≤ _
        rw [this]; omega
      · exact hP p l e R s m args below meth c hC H locs ls hRep hS hL
    · obtain ⟨hcat, hsl, hdp, hu1, hu2, Rq, hP, hnext⟩ := hcall
      obtain ⟨hMH, har, hcode, hini, hml19, hpl⟩ := hok
      have hM := ab_met hpl hsl hP l
      have hpre : PreS s H (ab_Pc E (vr b :: As) h n) (.ref (ab_ad E b) :: As.map (ab_rv E)) := ⟨ab_blind, fun U hU hW => ⟨rfl, ab_Kn_warm hS hU hW hKn, by rw [hU]; exact hRep⟩⟩
      have hGw := ab_ws j hcode
      have hrun : va_Run p l e R s m args below meth c H locs u.1 u.2 (ab_cost j).1 (ab_cost j).2 (F0 m pc ls ((As.reverse ++ vr b :: rest).map (ab_rv E))) (rest.map (ab_rv E)) (ab_Qc E Rq (Value.ref (ab_ad E b) :: As.map (ab_rv E)).toArray) (fun q => E.1 ≤ q) := by
        rw [hret] at hcode hGw
        have hM : Met l (ab_nm j) (Cond.code (ab_nm j) (ab_code j) (ab_maxL j) none :: ab_T) (ab_rm j) (ab_Pc E (vr b :: As) h n) (ab_Qc E Rq) (ab_cost j).1 (ab_cost j).2 (fun q => E.1 ≤ q) := by
          have z := hM
          unfold ab_W at z
          rw [hret] at z
          exact z
        rcases hln with hln | ⟨host, hln⟩
        · exact va_runI ⟨hx, hb, hml, hown, hts⟩ hM ⟨callB_of As.length hts hGw rfl rfl rfl (hts _ (ab_tin hini rfl)) (hts _ (ab_tin hln rfl)) ⟨hMH.1, hMH.2, har⟩ ⟨by show ab_dep j + 1 ≤ _; omega, by show 8 + (ab_maxL j + 11) + 38 * ab_dep j ≤ _; omega⟩, hnam, hts _ (ab_tin hin rfl)⟩
            hpre rfl (by rw [List.length_map]) (by rw [hL.1]) (by rw [List.map_append, List.map_reverse]; rfl) (lv_room (by rw [ab_cats]; exact hcat)) hd ⟨Nat.le_trans hu1 hdc, Nat.le_trans hu2 hds⟩
        · exact va_runIN ⟨hx, hb, hml, hown, hts⟩ hM ⟨va_cnB As.length hts hGw rfl rfl rfl (hKn.2.2.1 _ hln rfl) (hts _ (ab_tin hini rfl)) ⟨hMH.1, hMH.2, har⟩ ⟨by show ab_dep j + 1 ≤ _; omega, by show 8 + (ab_maxL j + 11) + 38 * ab_dep j ≤ _; omega⟩, hnam, hts _ (ab_tin hin rfl)⟩
            hpre rfl (by rw [List.length_map]) (by rw [hL.1]) (by rw [List.map_append, List.map_reverse]; rfl) (lv_room (by rw [ab_cats]; exact hcat)) hd ⟨Nat.le_trans hu1 hdc, Nat.le_trans hu2 hds⟩
      refine ab_fin hrun hS fun r h' n' H1 locs1 hq hR1 hS1 => ?_
      rw [ab_tol]
      exact hnext r h' n' hq p l e R s m args below meth c hC H1 locs1 ls hR1 hS1 hL
    · obtain ⟨hcat, hsl, hdp, hu1, hu2, Rq, hP, hnext⟩ := hcall
      obtain ⟨hMH, har, hcode, hini, hml19, hpl⟩ := hok
      have hM := ab_met hpl hsl hP l
      obtain ⟨hbn, C', T', N', q1, q2, q3⟩ := hRep.2.2.2 b _ hb6 hb0
      cases hcl.symm.trans q1
      obtain ⟨cellB, v1, v2, v3, -⟩ := q3
      obtain ⟨-, hfc, kC, hkC, hkind⟩ := hKn.1.1 ci _ hcl
      have hpre : PreV s H C (ab_ad E b) (ab_Pc E (vr b :: As) h n) (As.map (ab_rv E)) := ⟨ab_blind, ⟨cellB, v1, by rw [v3]; rfl, by rw [v2]; exact hfc⟩, fun U hU hW => ⟨rfl, ab_Kn_warm hS hU hW hKn, by rw [hU]; exact hRep⟩⟩
      have hrun : va_Run p l e R s m args below meth c H locs u.1 u.2 (ab_cost j).1 (ab_cost j).2 (F0 m pc ls ((As.reverse ++ vr b :: rest).map (ab_rv E))) (rest.map (ab_rv E)) (ab_Qc E Rq (Value.ref (ab_ad E b) :: As.map (ab_rv E)).toArray) (fun q => E.1 ≤ q) :=
        ab_runSU hx hb hml hown hM (ab_good_pay hts hcode) (hts _ (ab_tin hini rfl)) (hts _ (ab_tin hcode rfl)) (hts _ (ab_tin l1 rfl)) (hts _ (ab_tin l2 rfl)) (hts _ (ab_tin l3 rfl)) (l4.imp id (fun z => hts _ (ab_tin z rfl))) (hts _ (ab_tin l5 rfl)) l6 har ⟨by show ab_dep j + 1 ≤ _; omega, by show 8 + (ab_maxL j + 11) + 38 * ab_dep j ≤ _; omega⟩ v1 (by rw [v3]; rfl) (by rw [v2]; exact hkC) hpre
            rfl (by rw [List.length_map]) (by rw [hL.1]) (by rw [List.map_append, List.map_reverse]; rfl) (lv_room (by rw [ab_cats]; exact hcat)) hd ⟨Nat.le_trans hu1 hdc, Nat.le_trans hu2 hds⟩
      refine ab_fin hrun hS fun r h' n' H1 locs1 hq hR1 hS1 => ?_
      rw [ab_tol]
      exact hnext r h' n' hq p l e R s m args below meth c hC H1 locs1 ls hR1 hS1 hL
  | _ => exact hI.elim
