/-! ===== the judgement is true of the real machine: fields and arrays ===== -/
section ABO
variable {p : Program} {l : Launch} {e : Env} {R : Room} {s : State} {m : MethodId} {args : Array Value} {below : List Frame} {meth : Method} {c : Code} {H : Heap} {locs : List Loc} {cells slots : Nat} {Q : State → Prop}
variable {cc : ByteArray} {pc : Nat} {ls : Array Slot} {rest : List Value} {E : ab_E} {h : ab_H} {n a : Nat}
theorem ab_get {own : String} {ci idx kf : Nat} {fs : List ab_V} {v : ab_V} (hx : p.tables.exec = Jvm.exec) (hb : c.code = cc) (hts : ∀ w ∈ ab_T, w.before args s = true) (hown : s.vm.findClass own = some m.cls) (hKn : ab_Kn E s) (hR : ab_Rep E h n H)
    (ha : h a = some (.inl (ci, fs))) (h6 : 6 ≤ a) (hf : ab_fl own idx ci kf) (hv : fs[kf]? = some v) (hd : decode cc pc = .ok (.getfield idx, 3))
    (kk : W p l e R s m args below meth c H locs cells slots Q (F0 m (pc + 3) ls (ab_rv E v :: rest))) : W p l e R s m args below meth c H locs cells slots Q (F0 m pc ls (.ref (ab_ad E a) :: rest)) := by
  obtain ⟨-, C, T, N, h1, h2, h3⟩ := hR.2.2.2 a _ h6 ha
  obtain ⟨C', T', N', g1, g2, g3⟩ := hf
  cases h1.symm.trans g1
  have hP : va_P E.2.1 vwCl [(ab_ad E a, .inr (ci, fs.map (ab_rv E)))] H := fun k q hq => by
    cases k with
    | zero => cases hq; exact ⟨_, h1, h3⟩
    | succ k => cases hq
  have hv' : (fs.map (ab_rv E))[kf]? = some (ab_rv E v) := by rw [List.getElem?_map, hv]; rfl
  rcases g3 with g3 | ⟨host, g3⟩
  · exact va_get (D := E.2.1) (cl := vwCl) (tys := ab_tys E) hx hb hts (ab_cls h1).1 hown hKn.1 hP 0 rfl h1 kf g2 (hts _ (ab_tin g3 rfl)) (fun _ z => z) hv' hd kk
  · exact va_getN (D := E.2.1) (cl := vwCl) (tys := ab_tys E) hx hb hts (ab_cls h1).1 hown hKn.1 hP 0 rfl h1 kf g2 (va_Nw.use rfl (hKn.2.2.1 _ g3 rfl)) (fun _ z => z) hv' hd kk
theorem ab_put {own : String} {ci idx kf : Nat} {fs : List ab_V} {v : ab_V} (hx : p.tables.exec = Jvm.exec) (hb : c.code = cc) (hts : ∀ w ∈ ab_T, w.before args s = true) (hown : s.vm.findClass own = some m.cls) (hKn : ab_Kn E s) (hR : ab_Rep E h n H) (hS : va_S (fun q => E.1 ≤ q) s.heap H locs)
    (ha : h a = some (.inl (ci, fs))) (h6 : 6 ≤ a) (hf : ab_fp own meth.name idx ci kf) (hl : kf < fs.length) (hfit : ab_fit (ab_tyf ci kf) v) (hd : decode cc pc = .ok (.putfield idx, 3))
    (kk : ∀ (H1 : Heap) (locs1 : List Loc), ab_Rep E (ab_hs h a (.inl (ci, fs.set kf v))) n H1 → va_S (fun q => E.1 ≤ q) s.heap H1 locs1 → W p l e R s m args below meth c H1 locs1 cells slots Q (F0 m (pc + 3) ls rest)) : W p l e R s m args below meth c H locs cells slots Q (F0 m pc ls (ab_rv E v :: .ref (ab_ad E a) :: rest)) := by
  obtain ⟨han, C, T, N, h1, h2, h3⟩ := hR.2.2.2 a _ h6 ha
  obtain ⟨C', T', N', g1, g2, g3⟩ := hf
  cases h1.symm.trans g1
  obtain ⟨cell, q1, q2, q3, q4⟩ := h3
  obtain ⟨hin, hty, hnm⟩ := ab_cls h1
  obtain ⟨hSl, hfc, kC, hkC, hkind⟩ := hKn.1.1 ci _ h1
  have hap : ∀ x y, x < N → y < N → x ≠ y → E.2.1.2 ci x ≠ E.2.1.2 ci y := fun x y hx' hy' hne => va_apart (own := own) hts hin (ab_tyf ci) hty hnm hKn.1 h1 x y hx' hy' hne
  obtain ⟨cf, kf', fi, f, hi, hsl⟩ := hSl kf g2
  have hd2 := hty kf g2
  have hnf : narrow (ab_tyf ci kf) (ab_rv E v) = ab_rv E v ∧ fits (ab_tyf ci kf) (ab_rv E v) = true := by
    generalize ab_tyf ci kf = ty at hfit
    rcases v with x | x | _ | x <;> cases ty <;> first | exact ⟨rfl, rfl⟩ | exact hfit.elim | (rcases hfit with rfl | rfl <;> exact ⟨rfl, rfl⟩)
  have hst := (u_facts hfc hkC (u_lays hts hin g2) hi).1
  have hA : E.1 ≤ ab_ad E a := by rw [ab_ad_ge h6]; omega
  have fin : ∀ H' : Heap, H'[ab_ad E a]? = some (cell.setSlot f.slot (ab_rv E v)) → H'.size = H.size → (∀ q, q ≠ ab_ad E a → H'[q]? = H[q]?) → W p l e R s m args below meth c H' (locs ++ [⟨ab_ad E a, f.slot⟩]) cells slots Q (F0 m (pc + 3) ls rest) := by
    intro H' e1 e2 e3
    rw [hsl] at e1
    refine kk H' _ (ab_Rep_set hR h6 han e2 e3 ⟨C, T, N, h1, by rw [List.length_set]; exact h2, ?_⟩) (hS.put e2 e3 hA)
    refine t_OB.to (V := updV (vp_V (fs.map (ab_rv E))) kf (ab_rv E v)) ⟨_, e1, q2, q3, t_set q4 hap g2 _⟩ (fun j _ => ?_)
    rw [List.map_set]
    exact vp_updV_set (by rw [List.length_map]; exact hl) _ j
  rcases g3 with ⟨hfin, g3⟩ | ⟨hfin, hin2, hdecl, g3⟩
  · have hlay := hts _ (hin _ (u_in_lay g2))
    unfold u_lay at hlay
    rw [if_neg (by rw [hfin]; decide)] at hlay
    have h6' := u_store hfc hkC hkind hlay hi hd2 hnf.1 hnf.2
    rcases g3 with g3 | ⟨host, g3⟩
    · exact W.putK hx hb (f := f) ⟨hown, hts _ (ab_tin g3 rfl), ⟨_, _, _, hi⟩, hst⟩ (by rw [q2]; exact h6') q1 q3 (by rw [hsl]; exact k2_hasslot (q4 kf g2)) rfl rfl hd fin
    · exact va_WputK hx hb (f := f) hown (va_Nw.use rfl (hKn.2.2.1 _ g3 rfl)) hi hst (by rw [q2]; exact h6') q1 q3 (by rw [hsl]; exact k2_hasslot (q4 kf g2)) rfl rfl hd fin
  · have hlay := hts _ (hin _ (u_in_lay g2))
    unfold u_lay at hlay
    rw [if_pos hfin] at hlay
    have hcf : m.cls = cf := by
      obtain ⟨_, _, c', _, _, _, -, -, hf', -, -, -, hown2, -⟩ := Cond.laysFinal_spec hlay
      have e1 : c' = cf := by have := hi.symm.trans hf'; simp at this; exact this.1.symm
      rw [hdecl] at hown2
      rw [← e1]; exact Option.some.inj (hown.symm.trans hown2)
    have h6' := u_fits hfc hkC hkind (Or.inr hlay) hi hd2 hnf.1 hnf.2
    exact W.putFinK hx hb hown (hts _ (ab_tin g3 rfl)) hi hst hcf hin2 (by rw [q2]; exact h6') q1 q3 (by rw [hsl]; exact k2_hasslot (q4 kf g2)) rfl rfl hd fin
theorem ab_arrof {t : Nat} (hKn : ab_Kn E s) (ht : t < 7) : ArrOfT s (E.2.2.1 t) (ab_ety t) ∧ va_RA s (E.2.2.1 t) (ab_ety t) := by
  refine hKn.1.2 t (E.2.2.1 t, ab_ety t) ?_
  rw [ab_tys, List.getElem?_map, List.getElem?_range ht]
  rfl
theorem ab_intarr {m0 : Nat} {f : Int → Int} (hKn : ab_Kn E s) (hR : ab_Rep E h n H) (hS : va_S (fun q => E.1 ≤ q) s.heap H locs) (ha : h a = some (.inr (.inl (0, m0, f)))) : ∃ cell : Cell, H[ab_ad E a]? = some cell ∧ s.isArrayOf cell .int ∧ cell.vm ≠ .unknown ∧ cell.slots.size = m0 ∧ m0 ≤ 4096 ∧ ∀ j : Nat, j < m0 → cell.slots[j]? = some (.int (Int32.ofInt (f j))) := by
  by_cases h6 : 6 ≤ a
  · obtain ⟨han, h1, h2, h3⟩ := hR.2.2.2 a _ h6 ha
    exact ⟨_, h3, (ab_arrof hKn (t := 0) (by omega)).1 _ _, (fun q => by cases q), arrV_size _ _ _, h2, fun j hj => arrV_read _ _ hj⟩
  · have h0 := hR.2.2.1 a (by omega)
    rw [ha] at h0
    obtain ⟨g1, g2, scr, g3, g4, g5, g6, g7⟩ := hKn.2.2.2.1 a (by omega)
    have e : ab_ad E a = E.2.2.2.1 a := if_pos (by omega)
    cases h0
    exact ⟨scr, by rw [e, hS.2.1 _ (Nat.lt_of_lt_of_le g1 hKn.2.1) (Nat.not_le.mpr g1)]; exact g3, g4, g5, g6, g2, g7⟩
end ABO
