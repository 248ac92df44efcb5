def R_law : String := "LevelLaddersLaw"
def lw_P (b : Addr) (xs : List Int32) (args : Array Value) (s : State) : Prop := args = #[.ref b] ∧ s.IntsAt b xs ∧ xs.length ≤ 2560 ∧ (Jvm.Cond.and given_1 narrow_1).before args s = true
def lw_Q (_ : Array Value) (s : State) (o : Outcome) (t : State) : Prop := o = .returned (some (.int 1)) ∧ Framed s o t [] 600000 7302250
def lw_Z (below : List Frame) (a : Array Value) (s : State) : State → Prop := fun t => ∃ o, t.status = .running ∧ Ended t below o ∧ lw_Q a s o t
/-- the law's own end, with 1 on the stack, nothing written that was there before, its room as the claim has it -/
theorem lw_ret {p : Program} {l : Launch} {e : Env} {s : State} {m : MethodId} {below : List Frame} {meth : Method} {c : Code} {b : Nat} (hx : p.tables.exec = Jvm.exec) (hb : c.code = code) (hr : meth.sig.returnType = ret) (hlocks : meth.locks = false) {pc : Nat} {H : Heap} {ls : Array Slot} (hdg : decode code pc = .ok (.ireturn, 1)) : W p l e room_1 s m #[Value.ref b] below meth c H [] 600000 7302250 (lw_Z below #[Value.ref b] s) (F0 m pc ls [.int 1]) := by
  intro T hT X
  obtain ⟨fs, hret, hrun, hended, hW, hframe⟩ := X.leave (v := some (.int 1)) (hlocks := hlocks) (fun h => by rw [hr] at h; cases h)
  have hmeth' : T.vm.method? m = some meth := X.method'
  refine ⟨T.setFrames fs, ?_, .returned (some (.int 1)), hrun, hended, rfl, ⟨_, rfl⟩, hW, hframe⟩
  jvm_step X.here [X.here.top, hx, hb, hdg, hmeth', hr, ret, narrow_b1]
  (try refine ⟨rfl, ?_⟩); (try refine ⟨rfl, ?_⟩)
  first | (intro acts; rw [hret _ acts rfl rfl rfl]) | rw [hret _ _ rfl rfl rfl]
  exact Steps.refl _
/-- what holds at the law's entry: the machine, the code, the tables' words (any of lw_tbl by 'hts w (by decide +kernel)'), the script of L ints xs at the cell b, what the Statement gives of the start (any of its parts by flat_of_before) -/
def lw_At (p : Program) (s : State) (m : MethodId) (meth : Method) (c : Code) (b L : Nat) (xs : Nat → Int32) : Prop :=
  p.tables.exec = Jvm.exec ∧ c.code = code ∧ meth.sig.returnType = ret ∧ c.maxLocals = 4 ∧ s.vm.findClass R_law = some m.cls ∧ (∀ w ∈ lw_tbl, w.before #[Value.ref b] s = true) ∧ va_X b L xs s s.heap ∧ b < s.heap.size ∧ meth.locks = false ∧ (Jvm.Cond.and given_1 narrow_1).before #[Value.ref b] s = true
/-- from the entry, for every script, the law comes to its end with true -/
theorem whole_start {p : Program} {e : Env} {s : State} {m : MethodId} {below : List Frame} {meth : Method} {c : Code} (l : Launch) (hname : meth.name = "law") {b L : Nat} {xs : Nat → Int32} (hL : L ≤ 2560) (C0 : lw_At p s m meth c b L xs) : W p l e room_1 s m #[Value.ref b] below meth c s.heap [] 0 0 (lw_Z below #[Value.ref b] s) (entryFrame m ([Value.ref b] : List Value).toArray 4) := by
  obtain ⟨hx, hb, hr, hml, hown, hts, hX, hbl, hlocks, hgv⟩ := id C0
  have hcl := ab_ex_cl hts
  have har := ab_ex_ar hts
  have hst := ab_ex_st hts hgv
  obtain ⟨dz, hdz⟩ : ∃ dz : Nat → ClassId × (Nat → Nat), ∀ (k : Nat) (q : vw_C), vwCl[k]? = some q → u_Kn s q.1 q.2.1 q.2.2 (dz k).1 (dz k).2 := ⟨fun k => (hcl k).choose, fun k => (hcl k).choose_spec⟩
  obtain ⟨az, haz⟩ : ∃ az : Nat → ClassId, ∀ t, ArrOfT s (az t) (ab_ety t) ∧ va_RA s (az t) (ab_ety t) := ⟨fun t => (har t).choose, fun t => (har t).choose_spec⟩
  obtain ⟨t1, a1, b1, c1⟩ := hst 1 (by decide) (by decide)
  obtain ⟨t2, a2, b2, c2⟩ := hst 2 (by decide) (by decide)
  obtain ⟨t3, a3, b3, c3⟩ := hst 3 (by decide) (by decide)
  obtain ⟨t4, a4, b4, c4⟩ := hst 4 (by decide) (by decide)
  obtain ⟨t5, a5, b5, c5⟩ := hst 5 (by decide) (by decide)
  obtain ⟨sz, e0, e1, e2, e3, e4, e5⟩ : ∃ sz : Nat → Nat, sz 0 = b ∧ sz 1 = t1 ∧ sz 2 = t2 ∧ sz 3 = t3 ∧ sz 4 = t4 ∧ sz 5 = t5 := ⟨fun i => if i = 0 then b else if i = 1 then t1 else if i = 2 then t2 else if i = 3 then t3 else if i = 4 then t4 else t5, rfl, rfl, rfl, rfl, rfl, rfl⟩
  have hxs : (fun j : Nat => Int32.ofInt ((xs ((j : Int).toNat)).toInt)) = xs := by
    funext j
    rw [Int.toNat_natCast, Int32.ofInt_toInt]
  have key : ∀ E : ab_E, E = (s.heap.size, (fun k => (dz k).1, fun k => (dz k).2), az, sz, (L, fun j => (xs j.toNat).toInt)) → ab_Kn E s := by
    intro E hE
    subst hE
    refine ⟨⟨fun k q hq => hdz k q hq, fun k q hq => ?_⟩, Nat.le_refl _, ab_nwN hts, fun i hi => ?_, fun i h1 hi => ?_⟩
    · rw [ab_tys, List.getElem?_map] at hq
      obtain ⟨t, -, rfl⟩ := Option.map_eq_some_iff.mp hq
      exact haz t
    · have hi' : i = 0 ∨ i = 1 ∨ i = 2 ∨ i = 3 ∨ i = 4 ∨ i = 5 := by omega
      rcases hi' with rfl | rfl | rfl | rfl | rfl | rfl
      · refine ⟨by show sz 0 < _; rw [e0]; exact hbl, by show L ≤ 4096; omega, ?_⟩
        show va_X (sz 0) L (fun j : Nat => Int32.ofInt ((xs ((j : Int).toNat)).toInt)) s s.heap
        rw [e0, hxs]
        exact hX
      · exact ⟨by show sz 1 < _; rw [e1]; exact a1, Nat.le_of_ble_eq_true rfl, by show va_X (sz 1) _ _ s s.heap; rw [e1]; exact b1⟩
      · exact ⟨by show sz 2 < _; rw [e2]; exact a2, Nat.le_of_ble_eq_true rfl, by show va_X (sz 2) _ _ s s.heap; rw [e2]; exact b2⟩
      · exact ⟨by show sz 3 < _; rw [e3]; exact a3, Nat.le_of_ble_eq_true rfl, by show va_X (sz 3) _ _ s s.heap; rw [e3]; exact b3⟩
      · exact ⟨by show sz 4 < _; rw [e4]; exact a4, Nat.le_of_ble_eq_true rfl, by show va_X (sz 4) _ _ s s.heap; rw [e4]; exact b4⟩
      · exact ⟨by show sz 5 < _; rw [e5]; exact a5, Nat.le_of_ble_eq_true rfl, by show va_X (sz 5) _ _ s s.heap; rw [e5]; exact b5⟩
    · have hi' : i = 1 ∨ i = 2 ∨ i = 3 ∨ i = 4 ∨ i = 5 := by omega
      rcases hi' with rfl | rfl | rfl | rfl | rfl
      · show va_Z _ _ _ (.ref (sz 1)) _ s s.heap
        rw [e1]
        exact c1
      · show va_Z _ _ _ (.ref (sz 2)) _ s s.heap
        rw [e2]
        exact c2
      · show va_Z _ _ _ (.ref (sz 3)) _ s s.heap
        rw [e3]
        exact c3
      · show va_Z _ _ _ (.ref (sz 4)) _ s s.heap
        rw [e4]
        exact c4
      · show va_Z _ _ _ (.ref (sz 5)) _ s s.heap
        rw [e5]
        exact c5
  have hKn := key _ rfl
  have hG := lw_begin (m := L) (f := fun j => (xs j.toNat).toInt) (h := fun a => if a < 6 then some (.inr (.inl (0, (ab_st (L, fun j => (xs j.toNat).toInt) a).1, (ab_st (L, fun j => (xs j.toNat).toInt) a).2))) else none) hL (fun j _ _ => ⟨Int32.le_toInt _, Int32.toInt_lt _⟩) rfl ⟨rfl, rfl, rfl, rfl, rfl⟩
  have hSW := hG (ab_SW (s.heap.size, (fun k => (dz k).1, fun k => (dz k).2), az, sz, (L, fun j => (xs j.toNat).toInt))) (ab_sound _)
  rw [lg_entry_eq]
  have hLR := ab_LR_entry (E := (s.heap.size, (fun k => (dz k).1, fun k => (dz k).2), az, sz, (L, fun j => (xs j.toNat).toInt))) (vs := [vr 0]) (m := 4) (by decide)
  have hv : ([vr 0].map (ab_rv (s.heap.size, (fun k => (dz k).1, fun k => (dz k).2), az, sz, (L, fun j => (xs j.toNat).toInt)))) = [Value.ref b] := by
    show [Value.ref (sz 0)] = _
    rw [e0]
  rw [hv] at hLR
  have hw := hSW p l e room_1 s m #[Value.ref b] below meth c ⟨hx, hb, hr, hlocks, hml, hown, fun w hw => hts w (List.mem_filter.mp hw).1, hname, hKn, by decide, by decide, Nat.le_refl _, Nat.le_refl _⟩ s.heap [] _ ⟨rfl, by decide, fun i hi => if_pos hi, fun a ce ha hce => by
    have hce' : (if a < 6 then some (.inr (.inl (0, (ab_st (L, fun j => (xs j.toNat).toInt) a).1, (ab_st (L, fun j => (xs j.toNat).toInt) a).2))) else none : Option ab_C) = some ce := hce
    rw [if_neg (by omega)] at hce'
    cases hce'⟩ va_S.rf hLR
  intro T hT X
  obtain ⟨t, st, o, hrun, hend, ⟨⟨r, h, n, ho, hq, hrep⟩, hF⟩, Lc, hfe, hfree⟩ := hw T hT X
  have hq : r = some (vi 1) := hq
  subst hq
  refine ⟨t, st, o, hrun, hend, ho, ⟨_, ho⟩, hfe.2.1, ?_⟩
  exact hfe.2.2.weaken (fun x hx hlt => absurd hlt (Nat.not_lt.mpr (hfree x hx))) (Nat.le_refl _) (Nat.le_refl _)
set_option maxHeartbeats 4000000 in
theorem lw_walk (l : Launch) (hflags : l.flags = flags0) (b : Addr) (xs : List Int32) : MetFree l x (headSpec (Jvm.Cond.code x code maxLocals ret :: tables_1) room_1) (lw_P b xs) (fun _ _ _ _ _ => True) lw_Q := by
  refine MetFree.of_bodyS (code := code) (maxLocals := maxLocals) (ret := ret) (by decide) ?_ ?_
  · intro args s m h hn
    obtain ⟨meth, c, h1, h2, h3, h4, h5, h6, -, -⟩ := Cond.code_spec hn (atoms_spec (ws := Jvm.Cond.code x code maxLocals ret :: tables_1) h _ List.mem_cons_self)
    exact ⟨meth, c, h1, h2, h3, h4, h5, h6⟩
  · intro p e s m args below meth c s₁ B hml0 hP _
    obtain ⟨rfl, hx, hbd, hgv⟩ := hP
    obtain ⟨scr, harrAt, hlist, hof, hsmall⟩ := hx
    obtain ⟨hcb, hkn, -, -⟩ := State.arrayAt?_spec harrAt
    have hown : s.vm.findClass R_law = some m.cls := findClass_of_methodNamed B.named
    have hts0 : ∀ c ∈ (Jvm.Cond.code x code maxLocals ret :: tables_1), c.before #[Value.ref b] s = true := atoms_spec (ws := Jvm.Cond.code x code maxLocals ret :: tables_1) B.pre
    have hts : ∀ w ∈ lw_tbl, w.before #[Value.ref b] s = true := k2_hts_sels lw_privs (fun w hw => hts0 w (List.mem_cons_of_mem _ hw)) lw_privs_ok
    have hml : c.maxLocals = 4 := B.maxLocals_eq (hts0 _ List.mem_cons_self)
    have X₀ : Stand p l e room_1 s m #[Value.ref b] below meth c s₁ [] 0 0 := Stand.of_body B
    have hh0 : s₁.heap = s.heap := by rw [B.state]; rfl
    have hsz : scr.slots.size = xs.length := by rw [← Array.length_toList, hlist, List.length_map]
    have hval : ∀ j : Nat, j < xs.length → scr.slots[j]? = some (.int (xs.getD j 0)) := fun j hj => by
      rw [← Array.getElem?_toList, hlist]
      simp [hj]
    have hbl : b < s.heap.size := (Array.getElem?_eq_some_iff.mp hcb).1
    have hX : va_X b xs.length (fun j => xs.getD j 0) s s.heap := ⟨scr, hcb, hof, hkn, hsz, hval⟩
    have K : W p l e room_1 s m #[Value.ref b] below meth c s₁.heap [] 0 0 (lw_Z below #[Value.ref b] s) (entryFrame m ([Value.ref b] : List Value).toArray 4) := by
      rw [hh0]
      exact whole_start l (name_of_methodNamed B.named B.method).1 hbd ⟨B.exec, B.bytes, B.returns, hml, hown, hts, hX, hbl, B.notSynchronized, hgv⟩
    obtain ⟨t, a1, o, b1, b2, b3⟩ := K s₁ rfl X₀
    exact ⟨t, o, a1, b1, b2, b3⟩
theorem lw_pre_spec {args : Array Value} {s : State} (h : (Jvm.Cond.and given_1 narrow_1).before args s = true) (hr : rest_1_c.before args s = true) : ∃ (b : Addr) (xs : List Int32), lw_P b xs args s := by
  have hs := flat_of_before _ h
  have hq := flat_of_before _ hr
  have hc : (Cond.count 1).before args s = true := hs _ (by decide +kernel)
  have harr : (Cond.arrayOf (.arg 0) .int).before args s = true := hs _ (by decide +kernel)
  have hle : (Cond.le (.length (.arg 0)) (.int 2560)).before args s = true := hs _ (by decide +kernel)
  have hlen : (Cond.isInt (.length (.arg 0))).before args s = true := hq _ (by decide +kernel)
  have hall : (Cond.all (.arg 0) (.isInt (.elem (.arg 0) (.index 0)))).before args s = true := hq _ (by decide +kernel)
  obtain ⟨b, xs, hb, hx⟩ := State.ints_of_pre rfl harr hlen hall
  have hsm : xs.length < 2 ^ 31 := hx.choose_spec.2.2.2
  have hev : (Term.length (.arg 0)).eval args s none [] s = some (.int xs.length.toInt32) := hx.length_eval hb
  have hv := Cond.le_ints hev (show (Term.int 2560).eval args s none [] s = some (.int 2560) from rfl)
  have hd : xs.length.toInt32 ≤ 2560 := by
    simpa [Cond.before, Cond.holds, hv] using hle
  have hN : xs.length ≤ 2560 := (Int32.ofNat_le_ofNat hsm (by decide)).mp (show Int32.ofNat xs.length ≤ Int32.ofNat 2560 from hd)
  exact ⟨b, xs, Cond.one_arg hc (show args[0]? = some (.ref b) from hb), hx, hN, h⟩
theorem lw_comes (l : Launch) (hflags : l.flags = flags0) : Comes l x (Jvm.Cond.code x code maxLocals ret :: tables_1) room_1 (fun tb e args s => Calls_1 tb e args s ∧ rest_1 tb e args s ∧ Pre_1 tb e args s)
    (fun _ _ args s o t => lw_Q args s o t) := by
  intro p e ha hc hk s m args below hf hfit hheap happ hpre
  obtain ⟨b, xs, hP⟩ := lw_pre_spec hpre.2.2 hpre.2.1
  obtain ⟨k, o, h1, h2, h3, hQ⟩ := lw_walk l hflags b xs p e ha hc hk s m args below hf ((Spec.applies_iff_loose hf).mp happ).1 hP trivial
  exact ⟨k, o, h1, h2, h3, hQ⟩
theorem lw_frame {s t : State} {o : Outcome} {args : Array Value} (h : Framed s o t [] 600000 7302250) :
    Framed s o t (fieldLocs frame_1_writes args s ++ arrayLocs frame_1_arrays args s ++ staticLocs frame_1_statics s) 600000 7302250 := h
theorem lw_limb (L : Cond) (hL : ∀ (args : Array Value) (s t : State), L.after args s (.returned (some (.int 1))) t = true) :
    ArmFor flags0 classFile x code maxLocals ret World_1 tables_1 room_1 Calls_1 rest_1 Pre_1
      (fun tb e a s o t => postC L tb e a s o t ∧ Framed s o t (fieldLocs frame_1_writes a s ++ arrayLocs frame_1_arrays a s ++ staticLocs frame_1_statics s) 600000 7302250) := by
  intro l hflags _ _ p e ha hc hk s m args below hf hfit hheap happ hpre
  obtain ⟨k, o, h1, h2, h3, rfl, hF⟩ := lw_comes l hflags p e ha hc hk s m args below hf hfit hheap happ hpre
  exact ⟨k, _, h1, h2, h3, hL args s _, lw_frame hF⟩
theorem i_vc : Claimed_1_1 ∧ Claimed_1_2 := ⟨lw_limb limb_1_1 (fun args s t => by simp [limb_1_1, Cond.after, Cond.holds, Cond.value]), lw_limb limb_1_2 (fun args s t => Cond.after_iff.mpr (by
  first | (rw [show limb_1_2 = Cond.eq .result (.int 1) from rfl, Cond.eq_ints (x := 1) (y := 1) rfl rfl]; simp; done) | (simp [limb_1_2, Cond.value, Term.eval]; done)))⟩
