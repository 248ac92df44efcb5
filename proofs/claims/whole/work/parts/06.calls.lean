/-- an array class over a class is known from tables that are alike -/
theorem ab_AOs {ty : FieldType} {nm : String} {s : State} (hnm : (∃ C, ty = .object C ∧ nm = C) ∨ (∃ t, ty = .array t ∧ nm = (FieldType.array t).toString)) (h : va_Nw (.arrayOver ty) s) :
    ∃ comp c k, s.vm.findClass nm = some comp ∧ (s.vm.classes.findIdx? fun (x : Class) => match x.kind with | .array component _ => component == comp | _ => false) = some c ∧ s.vm.classes[c]? = some k ∧ k.kind = .array comp ty ∧ s.vm.findClass ("[" ++ ty.toString) = some c := by
  unfold va_Nw Cond.before Cond.holds at h
  rcases hnm with ⟨C, rfl, rfl⟩ | ⟨t, rfl, rfl⟩ <;>
  (simp only [Cond.value, beq_iff_eq, Option.bind_eq_some_iff, Option.map_eq_some_iff] at h
   obtain ⟨comp, hc, c, hi, k, hk, hb⟩ := h
   obtain ⟨hlt, hp, -⟩ := Array.findIdx?_eq_some_iff_getElem.mp hi
   have hkk : s.vm.classes[c] = k := (Array.getElem?_eq_some_iff.mp hk).2
   rw [hkk] at hp
   cases hkind : k.kind with
   | array component ty =>
     rw [hkind] at hb hp
     simp at hb hp
     exact ⟨comp, c, k, hc, hi, hk, by rw [hkind, hp, hb.1], hb.2⟩
   | _ => rw [hkind] at hb; simp at hb)
theorem ab_AO {ty : FieldType} {u U : State} (hvm : u.vm.Alike U.vm) (h : va_Nw (.arrayOver ty) u) : va_Nw (.arrayOver ty) U := by
  have hty : (∃ C, ty = .object C) ∨ (∃ t, ty = .array t) := by
    cases ty <;> first | exact Or.inl ⟨_, rfl⟩ | exact Or.inr ⟨_, rfl⟩ | (unfold va_Nw Cond.before Cond.holds at h; simp [Cond.value] at h)
  have key : ∃ nm, (∃ C, ty = .object C ∧ nm = C) ∨ (∃ t, ty = .array t ∧ nm = (FieldType.array t).toString) := by
    rcases hty with ⟨C, rfl⟩ | ⟨t, rfl⟩
    · exact ⟨C, Or.inl ⟨C, rfl, rfl⟩⟩
    · exact ⟨_, Or.inr ⟨t, rfl, rfl⟩⟩
  obtain ⟨nm, hnm⟩ := key
  obtain ⟨comp, c, k, h1, h2, h3, h4, h5⟩ := ab_AOs hnm h
  obtain ⟨k', hk', he⟩ := hvm.2.2 _ _ h3
  have hi : (U.vm.classes.findIdx? fun (x : Class) => match x.kind with | .array component _ => component == comp | _ => false) = some c := by
    rw [hvm.findIdx?_eqK _ (fun _ => rfl)]
    exact h2
  have hkind : k'.kind = .array comp ty := by rw [he]; exact h4
  have f1 : U.vm.findClass nm = some comp := by rw [hvm.findClass]; exact h1
  have f2 : U.vm.findClass ("[" ++ ty.toString) = some c := by rw [hvm.findClass]; exact h5
  unfold va_Nw Cond.before Cond.holds
  rcases hnm with ⟨C, rfl, rfl⟩ | ⟨t, rfl, rfl⟩ <;>
  (simp only [Cond.value]
   rw [f1, Option.bind_some]
   simp only [beq_iff_eq, Option.bind_eq_some_iff, Option.map_eq_some_iff]
   exact ⟨c, hi, k', hk', by rw [hkind]; simp [f2]⟩)
/-! ===== the judgement is true of the real machine: calls ===== -/
theorem ab_Kn_mv {E : ab_E} {u U : State} (hvm : u.vm.Alike U.vm) (hn : ∀ w, ab_isN w = true → va_Nw w u → va_Nw w U) (hz : E.1 ≤ U.heap.size) (hq : ∀ q, q < E.1 → U.heap[q]? = u.heap[q]?) (h : ab_Kn E u) : ab_Kn E U := by
  obtain ⟨h1, h2, h3, h4, h5⟩ := h
  refine ⟨va_K.moved hvm h1, hz, fun w hw hi => hn w hi (h3 w hw hi), fun i hi => ?_, fun i h1i hi => ?_⟩
  · obtain ⟨g1, g2, g3⟩ := h4 i hi
    exact ⟨g1, g2, va_X.moved hvm (va_X.kept g3 (hq _ g1))⟩
  · exact va_Z.moved hvm (va_Z.kept (h5 i h1i hi) (fun a _ hA => hq a (Nat.not_le.mp hA)))
theorem ab_Kn_warm {E : ab_E} {s U : State} {H : Heap} {locs : List Loc} (hS : va_S (fun q => E.1 ≤ q) s.heap H locs) (hU : U.heap = H) (hW : s.WarmedH U.vm) (h : ab_Kn E s) : ab_Kn E U := by
  refine ab_Kn_mv hW.alike (fun w hi hw => ?_) ?_ (fun q hq => ?_) h
  · cases w <;> first | exact va_Nw.warmF hW hw | exact va_Nw.warmM hW hw | exact va_Nw.warmC hW hw | exact ab_AO hW.alike hw | cases hi
  · rw [hU]; exact Nat.le_trans h.2.1 hS.1
  · rw [hU]; exact hS.2.1 q (Nat.lt_of_lt_of_le hq h.2.1) (Nat.not_le.mpr hq)
theorem ab_blind {E : ab_E} {avs : List Value} {h : ab_H} {n : Nat} : FrameBlind (va_Pc avs (fun U => ab_Kn E U ∧ ab_Rep E h n U.heap)) := fun a U g mk q =>
  ⟨q.1, ab_Kn_mv (u := U) (U := U.calling g mk a) (Vm.Alike.refl U.vm) (fun w hi hw => by
    cases w <;> first | exact va_Nw.same rfl (show U.vm = (U.calling g mk a).vm from rfl) hw | exact ab_AO (u := U) (U := U.calling g mk a) (Vm.Alike.refl U.vm) hw | cases hi) q.2.1.2.1 (fun _ _ => rfl) q.2.1, q.2.2⟩
abbrev ab_rm (j : Nat) : Room := { frames := ab_dep j, cells := (ab_cost j).1, slots := (ab_cost j).2, locals := 38 * ab_dep j }
abbrev ab_W (j : Nat) : List Cond := Cond.code (ab_nm j) (ab_code j) (ab_maxL j) (ab_ret j) :: ab_T
abbrev ab_Pc (E : ab_E) (As : List ab_V) (h : ab_H) (n : Nat) : Array Value → State → Prop := va_Pc (As.map (ab_rv E)) (fun U => ab_Kn E U ∧ ab_Rep E h n U.heap)
theorem ab_ofW {l : Launch} {y : MethodName} {ws ws' : List Cond} {rm : Room} {Pc : Array Value → State → Prop} {Qc : Array Value → State → Outcome → State → Prop} {mc ms : Nat} {free : Addr → Prop} {cc : ByteArray} {maxL : Nat} {ret : Option FieldType}
    (hy : plainFor y = true) (hw : ws = Cond.code y cc maxL ret :: ws')
    (body : ∀ p e s m args below meth c s₁, BodyLoose p l y (headSpec ws rm) cc maxL ret e s m args below meth c s₁ → c.maxLocals = maxL → Pc args s →
      W p l e (headSpec ws rm).room s m args below meth c s.heap [] 0 0 (MQ below Qc args s mc ms free) (entryFrame m args maxL)) : Met l y ws rm Pc Qc mc ms free := by
  refine MetFree.of_bodySF (code := cc) (maxLocals := maxL) (ret := ret) hy ?_ ?_
  · intro args s m h hn
    obtain ⟨meth, c, h1, h2, h3, h4, h5, h6, -, -⟩ := Cond.code_spec hn (atoms_spec (ws := ws) h _ (by rw [hw]; exact List.mem_cons_self))
    exact ⟨meth, c, h1, h2, h3, h4, h5, h6⟩
  · intro p e s m args below meth c s₁ B hml hP _
    have hh0 : s₁.heap = s.heap := by rw [B.state]; rfl
    obtain ⟨t, a1, o, b1, b2, b3⟩ := body p e s m args below meth c s₁ B hml hP s₁ hh0 (Stand.of_body B)
    exact ⟨t, o, a1, b1, b2, ⟨b3.1, b3.2⟩⟩
theorem ab_met {E : ab_E} {j : Nat} {As : List ab_V} {h : ab_H} {n : Nat} {Q : ab_Q} (hp : plainFor (ab_nm j) = true) (hs : (ab_sl As).length ≤ ab_maxL j) (P : ab_SW E j 0 (ab_ent (ab_maxL j) As) [] h n (0, 0) Q) (l : Launch) :
    Met l (ab_nm j) (ab_W j) (ab_rm j) (ab_Pc E As h n) (ab_Qc E Q) (ab_cost j).1 (ab_cost j).2 (fun q => E.1 ≤ q) := by
  refine ab_ofW (cc := ab_code j) (maxL := ab_maxL j) (ret := ab_ret j) hp rfl ?_
  intro p e s m args below meth c s₁ B hml hv
  obtain ⟨rfl, hKn, hRep⟩ := hv
  have hts := atoms_spec (ws := ab_W j) B.pre
  rw [lg_entry_eq]
  exact P p l e _ s m _ below meth c ⟨B.exec, B.bytes, B.returns, B.notSynchronized, hml, findClass_of_methodNamed B.named, fun w hw => hts w (List.mem_cons_of_mem _ hw), (name_of_methodNamed B.named B.method).1, hKn, Nat.le_refl _, Nat.le_refl _, Nat.le_refl _, Nat.le_refl _⟩ s.heap [] _ hRep va_S.rf (ab_LR_entry hs)
section ABC
variable {p : Program} {l : Launch} {e : Env} {R : Room} {s : State} {m : MethodId} {args : Array Value} {below : List Frame} {meth : Method} {c : Code} {H : Heap} {locs : List Loc} {cells slots : Nat} {Q : State → Prop}
theorem ab_fin {E : ab_E} {Rq : ab_Q} {mc ms pc : Nat} {ls : Array Slot} {st0 rest : List Value} {a : Array Value} (hr : va_Run p l e R s m args below meth c H locs cells slots mc ms (F0 m pc ls st0) rest (ab_Qc E Rq a) (fun q => E.1 ≤ q)) (hS : va_S (fun q => E.1 ≤ q) s.heap H locs)
    (kk : ∀ (r : Option ab_V) (h' : ab_H) (n' : Nat) (H1 : Heap) (locs1 : List Loc), Rq r h' n' → ab_Rep E h' n' H1 → va_S (fun q => E.1 ≤ q) s.heap H1 locs1 → W p l e R s m args below meth c H1 locs1 (cells + mc) (slots + ms) Q (F0 m (pc + 3) ls ((r.map (ab_rv E)).toList ++ rest))) :
    W p l e R s m args below meth c H locs cells slots Q (F0 m pc ls st0) := by
  intro T hT X
  obtain ⟨v, st₀, t, T', L, h0, X', hL, e1, e2, ⟨⟨r, h', n', hv, hq, hrep⟩, hz, hk⟩, st⟩ := hr T hT X
  cases hv
  rw [h0] at hz hk
  obtain ⟨t2, a1, b1⟩ := kk r h' n' T'.heap (locs ++ L) hq (by rw [e1]; exact hrep)
    ⟨Nat.le_trans hS.1 (by rw [e1]; exact hz), fun q h1 h2 => by rw [e1, hk q (Nat.lt_of_lt_of_le h1 hS.1) h2]; exact hS.2.1 q h1 h2, fun q hq => by
      rcases List.mem_append.mp hq with h | h
      · exact hS.2.2 q h
      · exact hL q h⟩ T' rfl X'
  exact ⟨t2, st t2 a1, b1⟩
end ABC
theorem ab_cats {E : ab_E} : ∀ (rest : List ab_V), (((rest.map (ab_rv E)).map fun v => v.category).sum) = (rest.map ab_cat).sum
  | [] => rfl
  | v :: rest => by
    have ih := ab_cats (E := E) rest
    simp only [List.map_cons, List.sum_cons, ih]
    rcases v with x | x | _ | x <;> rfl
theorem ab_tol {E : ab_E} (r : Option ab_V) (rest : List ab_V) : (r.map (ab_rv E)).toList ++ rest.map (ab_rv E) = (r.toList ++ rest).map (ab_rv E) := by
  cases r <;> simp
