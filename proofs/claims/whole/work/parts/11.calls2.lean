/-! ===== a rule a call ===== -/
def ab_vc (h : ab_H) (b : Nat) (o : String) (idx j m : Nat) : Prop := match h b with
  | some (.inl (c, _)) => ab_sV o idx c j m
  | _ => False
def ab_dm (j k : Nat) (As : List ab_V) : Prop := (ab_sl As).length ≤ ab_maxL j ∧ ab_dep j + 1 ≤ ab_dep k ∧ (ab_cost j).1 = 0 ∧ (ab_cost j).2 = 0
theorem ab_split {A B : List ab_V} {r r' : List ab_V} (hl : A.length = B.length) (e : A.reverse ++ r = B.reverse ++ r') : A = B ∧ r = r' := by
  have h := List.append_inj e (by rw [List.length_reverse, List.length_reverse]; exact hl)
  exact ⟨List.reverse_inj.mp h.1, h.2⟩
section ABR2
variable {k pc : Nat} {b : ByteArray} {L : ab_L} {h : ab_H} {n : Nat} {u : Nat × Nat} {Q : ab_Q}
theorem ab_u0 {j : Nat} {u : Nat × Nat} (h1 : (ab_cost j).1 = 0) (h2 : (ab_cost j).2 = 0) : (u.1 + (ab_cost j).1, u.2 + (ab_cost j).2) = u := by
  rw [h1, h2]; rfl
theorem ab_cl0 {j : Nat} {As rest : List ab_V} (hd : ab_dm j k As) (hu : u.1 ≤ (ab_cost k).1 ∧ u.2 ≤ (ab_cost k).2) : ab_call ab_G j As k pc L rest h n u Q ↔ (rest.map ab_cat).sum ≤ 8 ∧ ab_G j 0 (ab_ent (ab_maxL j) As) [] h n (0, 0) (fun r h' n' => ab_G k (pc + 3) L (r.toList ++ rest) h' n' u Q) := by
  rw [ab_call_iff, ab_u0 hd.2.2.1 hd.2.2.2, hd.2.2.1, hd.2.2.2]
  exact ⟨fun q => ⟨q.1, q.2.2.2.2.2⟩, fun q => ⟨q.1, hd.1, hd.2.1, hu.1, hu.2, q.2⟩⟩
theorem ab_r_static {idx j : Nat} {As rest : List ab_V} (hc : ab_code k = b) (hd : decode b pc = .ok (.invokestatic idx, 3)) (hj : ab_lk (ab_on k) idx = j) (hs : ab_sS (ab_own k) idx j As.length) (hj9 : j < 900) (hdm : ab_dm j k As) (hu : u.1 ≤ (ab_cost k).1 ∧ u.2 ≤ (ab_cost k).2) :
    ab_G k pc L (As.reverse ++ rest) h n u Q ↔ (rest.map ab_cat).sum ≤ 8 ∧ ab_G j 0 (ab_ent (ab_maxL j) As) [] h n (0, 0) (fun r h' n' => ab_G k (pc + 3) L (r.toList ++ rest) h' n' u Q) := by
  rw [ab_s hc hd, ← ab_cl0 hdm hu]
  constructor
  · rintro ⟨_, ⟨j', As', rest', e, ⟨e1, hok, _⟩, q⟩ | ⟨_, _, _, _, _, _, _, _, _, _, _, ⟨e1, _⟩, _⟩⟩
    · have : j' = j := e1.symm.trans hj
      subst this
      have hl : As'.length = As.length := Option.some.inj (hok.2.1.symm.trans hs.1.2.1)
      obtain ⟨rfl, rfl⟩ := ab_split hl.symm e
      exact q
    · omega
  · exact fun q => ⟨rfl, Or.inl ⟨j, As, rest, rfl, ⟨hj, hs⟩, q⟩⟩
theorem ab_r_virtual {idx j a : Nat} {As rest : List ab_V} (hc : ab_code k = b) (hd : decode b pc = .ok (.invokevirtual idx, 3)) (hj : ∀ ci, ab_vk (ab_on k) idx ci = j) (har : (parseMethodDescriptor (ab_nm j).desc).map (fun d => d.parameters.length) = some As.length) (hdm : ab_dm j k (vr a :: As)) (hu : u.1 ≤ (ab_cost k).1 ∧ u.2 ≤ (ab_cost k).2) :
    ab_G k pc L (As.reverse ++ vr a :: rest) h n u Q ↔ 6 ≤ a ∧ ab_vc h a (ab_own k) idx j As.length ∧ (rest.map ab_cat).sum ≤ 8 ∧ ab_G j 0 (ab_ent (ab_maxL j) (vr a :: As)) [] h n (0, 0) (fun r h' n' => ab_G k (pc + 3) L (r.toList ++ rest) h' n' u Q) := by
  rw [ab_s hc hd, ← ab_cl0 hdm hu]
  constructor
  · rintro ⟨_, j', As', a', rest', ci, fs, e, ha, h6, ⟨e1, hs⟩, q⟩
    have : j' = j := e1.symm.trans (hj ci)
    subst this
    have hl : As'.length = As.length := Option.some.inj (hs.1.2.1.symm.trans har)
    obtain ⟨rfl, e2⟩ := ab_split hl.symm e
    cases e2
    exact ⟨h6, by unfold ab_vc; rw [ha]; exact hs, q⟩
  · rintro ⟨h6, hv, q⟩
    unfold ab_vc at hv
    split at hv
    · rename_i c fs ha
      exact ⟨rfl, j, As, a, rest, c, fs, rfl, ha, h6, ⟨hj c, hv⟩, q⟩
    · exact hv.elim
/-- a call that hangs on the receiver's class -/
theorem ab_r_poly {idx j a ci : Nat} {fs : List ab_V} {As rest : List ab_V} (hc : ab_code k = b) (hd : decode b pc = .ok (.invokevirtual idx, 3)) (hj : ab_vk (ab_on k) idx ci = j) (hs : ab_sV (ab_own k) idx ci j As.length) (hdm : ab_dm j k (vr a :: As)) (hu : u.1 ≤ (ab_cost k).1 ∧ u.2 ≤ (ab_cost k).2)
    (ha : h a = some (.inl (ci, fs))) (h6 : 6 ≤ a) (q : (rest.map ab_cat).sum ≤ 8 ∧ ab_G j 0 (ab_ent (ab_maxL j) (vr a :: As)) [] h n (0, 0) (fun r h' n' => ab_G k (pc + 3) L (r.toList ++ rest) h' n' u Q)) : ab_G k pc L (As.reverse ++ vr a :: rest) h n u Q := by
  rw [ab_s hc hd]
  exact ⟨rfl, j, As, a, rest, ci, fs, rfl, ha, h6, ⟨hj, hs⟩, (ab_cl0 hdm hu).mpr q⟩
theorem ab_r_super {idx j a ci : Nat} {fs : List ab_V} {As rest : List ab_V} (hc : ab_code k = b) (hd : decode b pc = .ok (.invokespecial idx, 3)) (hj : ab_lk (ab_on k) idx = j) (hs : ab_sU (ab_own k) idx j As.length) (hdm : ab_dm j k (vr a :: As)) (hu : u.1 ≤ (ab_cost k).1 ∧ u.2 ≤ (ab_cost k).2) (hci : ci < 13)
    (ha : h a = some (.inl (ci, fs))) (h6 : 6 ≤ a) (q : (rest.map ab_cat).sum ≤ 8 ∧ ab_G j 0 (ab_ent (ab_maxL j) (vr a :: As)) [] h n (0, 0) (fun r h' n' => ab_G k (pc + 3) L (r.toList ++ rest) h' n' u Q)) : ab_G k pc L (As.reverse ++ vr a :: rest) h n u Q := by
  rw [ab_s hc hd]
  have hcl : ∃ C T N, vwCl[ci]? = some (C, T, N) := ⟨(vwCl[ci]'hci).1, (vwCl[ci]'hci).2.1, (vwCl[ci]'hci).2.2, List.getElem?_eq_getElem hci⟩
  exact ⟨rfl, Or.inr (Or.inr ⟨j, As, a, rest, ci, fs, rfl, ha, h6, ⟨hj, hs⟩, hcl, (ab_cl0 hdm hu).mpr q⟩)⟩
theorem ab_r_objinit {idx a : Nat} {rest : List ab_V} (hc : ab_code k = b) (hd : decode b pc = .ok (.invokespecial idx, 3)) (hj : ab_lk (ab_on k) idx = 998) (hw : Cond.methodLink (ab_own k) idx objectInit ∈ lw_tbl) (hdp : 1 ≤ ab_dep k) (q : (rest.map ab_cat).sum ≤ 8 ∧ ab_G k (pc + 3) L rest h n u Q) : ab_G k pc L (vr a :: rest) h n u Q := by
  rw [ab_s hc hd]
  exact ⟨rfl, Or.inl ⟨a, rest, rfl, ⟨hj, hw⟩, q.1, hdp, q.2⟩⟩
/-- a constructor's call; it may make cells -/
theorem ab_r_init {idx j a : Nat} {As rest : List ab_V} (hc : ab_code k = b) (hd : decode b pc = .ok (.invokespecial idx, 3)) (hj : ab_lk (ab_on k) idx = j) (hs : ab_sI (ab_own k) idx j As.length) (h1 : (ab_sl (vr a :: As)).length ≤ ab_maxL j) (h2 : ab_dep j + 1 ≤ ab_dep k) {cj ck : Nat × Nat} (hcj : ab_cost j = cj) (hck : ab_cost k = ck)
    (q : (rest.map ab_cat).sum ≤ 8 ∧ (u.1 + cj.1 ≤ ck.1 ∧ u.2 + cj.2 ≤ ck.2) ∧ ab_G j 0 (ab_ent (ab_maxL j) (vr a :: As)) [] h n (0, 0) (fun r h' n' => ab_G k (pc + 3) L (r.toList ++ rest) h' n' (u.1 + cj.1, u.2 + cj.2) Q)) : ab_G k pc L (As.reverse ++ vr a :: rest) h n u Q := by
  subst hcj; subst hck
  rw [ab_s hc hd]
  exact ⟨rfl, Or.inr (Or.inl ⟨j, As, a, rest, rfl, ⟨hj, hs⟩, ab_call_iff.mpr ⟨q.1, h1, h2, q.2.1.1, q.2.1.2, q.2.2⟩⟩)⟩
def ab_cp (h : ab_H) (a0 : Nat) (sp : Int) (a : Nat) (dp m : Int) (K : ab_H → Prop) : Prop := match h a0, h a with
  | some (.inr (.inl (0, n0, f))), some (.inr (.inl (0, n1, g))) => 0 ≤ sp ∧ 0 ≤ dp ∧ 0 ≤ m ∧ sp + m ≤ (n0 : Int) ∧ dp + m ≤ (n1 : Int) ∧ K (ab_hs h a (.inr (.inl (0, n1, ab_cpy f g sp dp m))))
  | _, _ => False
theorem ab_r_copy {idx a a0 : Nat} {sp dp m : Int} {rest : List ab_V} (hc : ab_code k = b) (hd : decode b pc = .ok (.invokestatic idx, 3)) (hj : ab_lk (ab_on k) idx = 999) (hw : Cond.methodLink (ab_own k) idx arraycopyName ∈ lw_tbl) (hdp : 1 ≤ ab_dep k)
    (q : 6 ≤ a0 ∧ 6 ≤ a ∧ (rest.map ab_cat).sum ≤ 8 ∧ ab_cp h a0 sp a dp m (fun h' => ab_G k (pc + 3) L rest h' n u Q)) : ab_G k pc L (vi m :: vi dp :: vr a :: vi sp :: vr a0 :: rest) h n u Q := by
  rw [ab_s hc hd]
  obtain ⟨h1, h2, h3, q⟩ := q
  unfold ab_cp at q
  split at q
  · rename_i n0 f n1 g e0 e1
    obtain ⟨q1, q2, q3, q4, q5, q⟩ := q
    exact ⟨rfl, Or.inr ⟨m, dp, a, sp, a0, rest, n0, n1, f, g, rfl, ⟨hj, hw⟩, e0, e1, h1, h2, q1, q2, q3, q4, q5, h3, hdp, q⟩⟩
  · exact q.elim
theorem ab_r_new {idx ci N : Nat} {S : List ab_V} {ck : Nat × Nat} (hc : ab_code k = b) (hd : decode b pc = .ok (.new idx, 3)) (hx : ab_lk (ab_on k) idx = ci ∧ ab_nc (ab_own k) idx ci N) (hck : ab_cost k = ck)
    (q : (u.1 + 1 ≤ ck.1 ∧ u.2 + N ≤ ck.2) ∧ ab_G k (pc + 3) L (vr n :: S) (ab_hs h n (.inl (ci, ab_dfs ci N))) (n + 1) (u.1 + 1, u.2 + N) Q) : ab_G k pc L S h n u Q := by
  subst hck
  rw [ab_s hc hd]
  exact ⟨rfl, ci, N, hx, q.1.1, q.1.2, q.2⟩
theorem ab_r_newarray {t : ArrayType} {m : Nat} {c : ab_C} {S : List ab_V} {ck : Nat × Nat} (hc : ab_code k = b) (hd : decode b pc = .ok (.newarray t, 2)) (hm : m ≤ 4096) (ht : ab_na t m = some c) (hck : ab_cost k = ck)
    (q : (u.1 + 1 ≤ ck.1 ∧ u.2 + m ≤ ck.2) ∧ ab_G k (pc + 2) L (vr n :: S) (ab_hs h n c) (n + 1) (u.1 + 1, u.2 + m) Q) : ab_G k pc L (vi m :: S) h n u Q := by
  subst hck
  rw [ab_s hc hd]
  exact ⟨rfl, m, c, S, rfl, hm, ht, q.1.1, q.1.2, q.2⟩
theorem ab_r_anewarray {idx t m : Nat} {E : String} {S : List ab_V} {ck : Nat × Nat} (hc : ab_code k = b) (hd : decode b pc = .ok (.anewarray idx, 3)) (hm : m ≤ 4096) (ht : t = 4 ∨ t = 5) (hE : ab_ety t = .object E) (hw : Cond.classLink (ab_own k) idx E ∈ lw_tbl ∧ Cond.arrayOver (.object E) ∈ lw_tbl) (hck : ab_cost k = ck)
    (q : (u.1 + 1 ≤ ck.1 ∧ u.2 + m ≤ ck.2) ∧ ab_G k (pc + 3) L (vr n :: S) (ab_hs h n (.inr (.inr (.inr (t, m, fun _ => none))))) (n + 1) (u.1 + 1, u.2 + m) Q) : ab_G k pc L (vi m :: S) h n u Q := by
  subst hck
  rw [ab_s hc hd]
  exact ⟨rfl, m, t, E, S, rfl, hm, ht, hE, hw.1, hw.2, q.1.1, q.1.2, q.2⟩
theorem ab_r_aastore {i : Int} {a c t m ci N : Nat} {f : Int → Option Nat} {fs : List ab_V} {E C : String} {T : u_T} {S : List ab_V} (hc : ab_code k = b) (hd : decode b pc = .ok (.aastore, 1)) (ha : h a = some (.inr (.inr (.inr (t, m, f))))) (h6 : 6 ≤ a) (hb : h c = some (.inl (ci, fs))) (h6b : 6 ≤ c) (hE : ab_ety t = .object E) (hcl : vwCl[ci]? = some (C, T, N)) (hca : C = E ∨ Cond.castable C E ∈ lw_tbl) (h0 : 0 ≤ i) (h1 : i < (m : Int))
    (q : ab_G k (pc + 1) L S (ab_hs h a (.inr (.inr (.inr (t, m, ab_ui f i (some c)))))) n u Q) : ab_G k pc L (vr c :: vi i :: vr a :: S) h n u Q := by
  rw [ab_s hc hd]
  exact ⟨rfl, c, i, a, S, t, m, f, ci, fs, E, C, T, N, rfl, ha, h6, hb, h6b, hE, hcl, hca, h0, h1, q⟩
theorem ab_r_table {d lo hi x : Int} {offs : Array Int} {len : Nat} {S : List ab_V} (hc : ab_code k = b) (hd : decode b pc = .ok (.tableswitch d lo hi offs, len)) (q : ab_inR x ∧ ((x < lo ∨ hi < x) → ∃ t : Nat, (pc : Int) + d = (t : Int) ∧ ab_G k t L S h n u Q) ∧ (¬ (x < lo ∨ hi < x) → ∃ (o : Int) (t : Nat), offs[(x - lo).toNat]? = some o ∧ (pc : Int) + o = (t : Int) ∧ ab_G k t L S h n u Q)) : ab_G k pc L (vi x :: S) h n u Q := by
  rw [ab_s hc hd]
  exact ⟨x, S, rfl, q⟩
theorem ab_r_lookup {d x : Int} {ps : Array (Int × Int)} {len : Nat} {S : List ab_V} (hc : ab_code k = b) (hd : decode b pc = .ok (.lookupswitch d ps, len)) (hp : (ps.toList.zip (ps.toList.drop 1)).all (fun (a, next) => a.1 < next.1) = true) (q : ab_inR x ∧ ∃ t : Nat, (pc : Int) + Op.lookupswitch.offset ps.toList d x = (t : Int) ∧ ab_G k t L S h n u Q) : ab_G k pc L (vi x :: S) h n u Q := by
  rw [ab_s hc hd]
  exact ⟨x, S, rfl, q.1, hp, q.2⟩
end ABR2
