/-! ===== cells made one behind the other ===== -/
def ab_mkc (h : ab_H) (a : Nat) (cs : List ab_C) : ab_H := fun x => if a ≤ x ∧ x < a + cs.length then cs[x - a]? else h x
theorem ab_mkc_new {h : ab_H} {a : Nat} {cs : List ab_C} {c : ab_C} : ab_hs (ab_mkc h a cs) (a + cs.length) c = ab_mkc h a (cs ++ [c]) := by
  funext x
  have hl : (cs ++ [c]).length = cs.length + 1 := by simp
  unfold ab_hs ab_mkc
  by_cases e : x = a + cs.length
  · rw [if_pos e, if_pos ⟨by omega, by omega⟩, show x - a = cs.length by omega, List.getElem?_append_right (Nat.le_refl _), Nat.sub_self]
    rfl
  · rw [if_neg e]
    by_cases d : a ≤ x ∧ x < a + cs.length
    · rw [if_pos d, if_pos ⟨by omega, by omega⟩, List.getElem?_append_left (by omega)]
    · rw [if_neg d, if_neg (by omega)]
theorem ab_mkc_set {h : ab_H} {a m : Nat} {cs : List ab_C} {c : ab_C} (hm : m < cs.length) : ab_hs (ab_mkc h a cs) (a + m) c = ab_mkc h a (cs.set m c) := by
  funext x
  unfold ab_hs ab_mkc
  rw [List.length_set]
  by_cases e : x = a + m
  · rw [if_pos e, if_pos ⟨by omega, by omega⟩, show x - a = m by omega, List.getElem?_set_self hm]
  · rw [if_neg e]
    by_cases d : a ≤ x ∧ x < a + cs.length
    · rw [if_pos d, if_pos d, List.getElem?_set_ne (by omega)]
    · rw [if_neg d, if_neg d]
theorem ab_mkc_at {h : ab_H} {a m : Nat} {cs : List ab_C} (hm : m < cs.length) : ab_mkc h a cs (a + m) = cs[m]? := by
  unfold ab_mkc
  rw [if_pos ⟨by omega, by omega⟩, show a + m - a = m by omega]
theorem ab_mkc_o {h : ab_H} {a x : Nat} {cs : List ab_C} (hx : x < a) : ab_mkc h a cs x = h x := by
  unfold ab_mkc
  rw [if_neg (by omega)]
theorem ab_mkc_nest {h : ab_H} {a : Nat} {cs ds : List ab_C} : ab_mkc (ab_mkc h a cs) (a + cs.length) ds = ab_mkc h a (cs ++ ds) := by
  funext x
  have hl : (cs ++ ds).length = cs.length + ds.length := by simp
  unfold ab_mkc
  by_cases d : a + cs.length ≤ x ∧ x < a + cs.length + ds.length
  · rw [if_pos d, if_pos ⟨by omega, by omega⟩, List.getElem?_append_right (by omega), show x - (a + cs.length) = x - a - cs.length by omega]
  · rw [if_neg d]
    by_cases e : a ≤ x ∧ x < a + cs.length
    · rw [if_pos e, if_pos ⟨by omega, by omega⟩, List.getElem?_append_left (by omega)]
    · rw [if_neg e, if_neg (by omega)]
theorem ab_mkc_one {h : ab_H} {a : Nat} {c : ab_C} : ab_hs h a c = ab_mkc h a [c] := by
  funext x
  unfold ab_hs ab_mkc
  by_cases e : x = a
  · rw [if_pos e, if_pos ⟨by omega, by simp; omega⟩, show x - a = 0 by omega]
    rfl
  · rw [if_neg e, if_neg (by simp; omega)]
section AL
variable {k pc : Nat} {b : ByteArray} {L : ab_L} {h : ab_H} {u u' : Nat × Nat} {Q : ab_Q} {a : Nat} {cs cs' : List ab_C} {S : List ab_V} {n : Nat} {ck : Nat × Nat}
theorem ab_w_new {idx ci N : Nat} {fs : List ab_V} (m : Nat) (cs' : List ab_C) (u' : Nat × Nat) (hc : ab_code k = b) (hd : decode b pc = .ok (.new idx, 3)) (hx : ab_lk (ab_on k) idx = ci ∧ ab_nc (ab_own k) idx ci N) (hck : ab_cost k = ck) (hfs : ab_dfs ci N = fs) (hm : cs.length = m) (hcs : cs ++ [.inl (ci, fs)] = cs') (hu : u.1 + 1 ≤ ck.1 ∧ u.2 + N ≤ ck.2) (hu' : (u.1 + 1, u.2 + N) = u')
    (q : ab_G k (pc + 3) L (vr (a + m) :: S) (ab_mkc h a cs') (a + (m + 1)) u' Q) : ab_G k pc L S (ab_mkc h a cs) (a + m) u Q := by
  subst hm; subst hcs; subst hu'; subst hfs
  refine ab_r_new hc hd hx hck ⟨hu, ?_⟩
  rw [ab_mkc_new]
  exact q
theorem ab_w_na {t : ArrayType} {c : ab_C} {x : Int} (w m : Nat) (cs' : List ab_C) (u' : Nat × Nat) (hc : ab_code k = b) (hd : decode b pc = .ok (.newarray t, 2)) (hx : x = (w : Int)) (hw : w ≤ 4096) (ht : ab_na t w = some c) (hck : ab_cost k = ck) (hm : cs.length = m) (hcs : cs ++ [c] = cs') (hu : u.1 + 1 ≤ ck.1 ∧ u.2 + w ≤ ck.2) (hu' : (u.1 + 1, u.2 + w) = u')
    (q : ab_G k (pc + 2) L (vr (a + m) :: S) (ab_mkc h a cs') (a + (m + 1)) u' Q) : ab_G k pc L (vi x :: S) (ab_mkc h a cs) (a + m) u Q := by
  subst hm; subst hcs; subst hu'; subst hx
  refine ab_r_newarray hc hd hw ht hck ⟨hu, ?_⟩
  rw [ab_mkc_new]
  exact q
theorem ab_w_an {idx t : Nat} {E : String} {x : Int} (w m : Nat) (cs' : List ab_C) (u' : Nat × Nat) (hc : ab_code k = b) (hd : decode b pc = .ok (.anewarray idx, 3)) (hx : x = (w : Int)) (hw : w ≤ 4096) (ht : t = 4 ∨ t = 5) (hE : ab_ety t = .object E) (hl : Cond.classLink (ab_own k) idx E ∈ lw_tbl ∧ Cond.arrayOver (.object E) ∈ lw_tbl) (hck : ab_cost k = ck) (hm : cs.length = m) (hcs : cs ++ [.inr (.inr (.inr (t, w, fun _ => none)))] = cs') (hu : u.1 + 1 ≤ ck.1 ∧ u.2 + w ≤ ck.2) (hu' : (u.1 + 1, u.2 + w) = u')
    (q : ab_G k (pc + 3) L (vr (a + m) :: S) (ab_mkc h a cs') (a + (m + 1)) u' Q) : ab_G k pc L (vi x :: S) (ab_mkc h a cs) (a + m) u Q := by
  subst hm; subst hcs; subst hu'; subst hx
  refine ab_r_anewarray hc hd hw ht hE hl hck ⟨hu, ?_⟩
  rw [ab_mkc_new]
  exact q
theorem ab_w_put {idx ci kf : Nat} {v : ab_V} {fs : List ab_V} {o : Nat} (i : Nat) (cs' : List ab_C) (ho : o = a + i) (h6 : 6 ≤ a) (hc : ab_code k = b) (hd : decode b pc = .ok (.putfield idx, 3)) (hx : ab_xp k idx ci kf) (hi : cs[i]? = some (.inl (ci, fs))) (hk : kf < fs.length) (hf : ab_fit (ab_tyf ci kf) v) (hcs : cs.set i (.inl (ci, fs.set kf v)) = cs')
    (q : ab_G k (pc + 3) L S (ab_mkc h a cs') n u Q) : ab_G k pc L (v :: vr o :: S) (ab_mkc h a cs) n u Q := by
  subst hcs; subst ho
  have hl : i < cs.length := (List.getElem?_eq_some_iff.mp hi).1
  refine (ab_r_putfield hc hd hx).mpr ⟨by omega, hf, ?_⟩
  unfold ab_fs
  rw [ab_mkc_at hl, hi]
  refine ⟨rfl, hk, ?_⟩
  rw [ab_mkc_set hl]
  exact q
theorem ab_w_ias {x y : Int} {w : Nat} {f : Int → Int} {o : Nat} (i : Nat) (cs' : List ab_C) (ho : o = a + i) (h6 : 6 ≤ a) (hc : ab_code k = b) (hd : decode b pc = .ok (.iastore, 1)) (hi : cs[i]? = some (ab_ia w f)) (hx : 0 ≤ x ∧ x < (w : Int)) (hcs : cs.set i (ab_ia w (ab_ui f x y)) = cs')
    (q : ab_G k (pc + 1) L S (ab_mkc h a cs') n u Q) : ab_G k pc L (vi y :: vi x :: vr o :: S) (ab_mkc h a cs) n u Q := by
  subst hcs; subst ho
  have hl : i < cs.length := (List.getElem?_eq_some_iff.mp hi).1
  refine (ab_r_iastore hc hd).mpr ⟨by omega, ?_⟩
  unfold ab_as
  rw [ab_mkc_at hl, hi]
  refine ⟨rfl, hx.1, hx.2, ?_⟩
  rw [ab_mkc_set hl]
  exact q
theorem ab_w_aas {x : Int} {w t ci N : Nat} {f : Int → Option Nat} {fs : List ab_V} {E C : String} {T : u_T} {o p : Nat} (i j : Nat) (cs' : List ab_C) (ho : o = a + i) (hp : p = a + j) (h6 : 6 ≤ a) (hc : ab_code k = b) (hd : decode b pc = .ok (.aastore, 1)) (hi : cs[i]? = some (.inr (.inr (.inr (t, w, f))))) (hj : cs[j]? = some (.inl (ci, fs))) (hE : ab_ety t = .object E) (hcl : vwCl[ci]? = some (C, T, N)) (hca : C = E ∨ Cond.castable C E ∈ lw_tbl) (hx : 0 ≤ x ∧ x < (w : Int)) (hcs : cs.set i (.inr (.inr (.inr (t, w, ab_ui f x (some p))))) = cs')
    (q : ab_G k (pc + 1) L S (ab_mkc h a cs') n u Q) : ab_G k pc L (vr p :: vi x :: vr o :: S) (ab_mkc h a cs) n u Q := by
  subst hcs; subst ho
  have hl : i < cs.length := (List.getElem?_eq_some_iff.mp hi).1
  have hl2 : j < cs.length := (List.getElem?_eq_some_iff.mp hj).1
  refine ab_r_aastore hc hd ((ab_mkc_at hl).trans hi) (by omega) (by rw [hp]; exact (ab_mkc_at hl2).trans hj) (by omega) hE hcl hca hx.1 hx.2 ?_
  rw [ab_mkc_set hl]
  exact q
/-- a constructor of method j: from its object alone to the cells it leaves -/
def ab_ci (j : Nat) (As : List ab_V) (c : ab_C) (ds : Nat → List ab_C) : Prop := ∀ (h : ab_H) (b : Nat) (Q : ab_Q), 6 ≤ b → Q none (ab_mkc h b (ds b)) (b + (ds b).length) → ab_G j 0 (ab_ent (ab_maxL j) (vr b :: As)) [] (ab_mkc h b [c]) (b + 1) (0, 0) Q
theorem ab_w_init {idx j : Nat} {As : List ab_V} {c : ab_C} {ds : Nat → List ab_C} {cj : Nat × Nat} {S0 : List ab_V} {cs0 : List ab_C} (i m' : Nat) (cs cs' : List ab_C) (u' : Nat × Nat) (hspec : ab_ci j As c ds) (h6 : 6 ≤ a) (hc : ab_code k = b) (hd : decode b pc = .ok (.invokespecial idx, 3)) (hj : ab_lk (ab_on k) idx = j) (hs : ab_sI (ab_own k) idx j As.length) (h1 : (ab_sl (vr (a + i) :: As)).length ≤ ab_maxL j) (h2 : ab_dep j + 1 ≤ ab_dep k) (hcj : ab_cost j = cj) (hck : ab_cost k = ck) (hi : cs.length = i) (hcs0 : cs0 = cs ++ [c]) (hcs : cs ++ ds (a + i) = cs') (hm : i + (ds (a + i)).length = m') (hsum : (S.map ab_cat).sum ≤ 8) (hu : u.1 + cj.1 ≤ ck.1 ∧ u.2 + cj.2 ≤ ck.2) (hu' : (u.1 + cj.1, u.2 + cj.2) = u') (hst : S0 = As.reverse ++ vr (a + i) :: S)
    (q : ab_G k (pc + 3) L S (ab_mkc h a cs') (a + m') u' Q) : ab_G k pc L S0 (ab_mkc h a cs0) (a + (i + 1)) u Q := by
  subst hi; subst hst; subst hcs0; subst hcs; subst hm; subst hu'
  refine ab_r_init hc hd hj hs h1 h2 hcj hck ⟨hsum, hu, ?_⟩
  rw [← ab_mkc_nest (ds := [c])]
  refine hspec _ _ _ (by omega) ?_
  show ab_G k (pc + 3) L S _ _ _ Q
  rw [ab_mkc_nest, Nat.add_assoc]
  exact q
/-- the lists: a row of rows -/
theorem ab_w_mna {idx : Nat} {x y : Int} (mm w m : Nat) (cs' : List ab_C) (u' : Nat × Nat) (hc : ab_code k = b) (hd : decode b pc = .ok (.multianewarray idx 2, 4)) (hx : x = (mm : Int)) (hy : y = (w : Int)) (h1 : mm ≤ 4096) (h2 : w ≤ 4096) (hl : Cond.classLink (ab_own k) idx "[[J" ∈ lw_tbl) (hck : ab_cost k = ck) (hm : cs.length = m) (hcs : cs ++ (.inr (.inr (.inr (6, mm, fun i => if 0 ≤ i ∧ i < mm then some (a + m + 1 + i.toNat) else none))) :: List.replicate mm (.inr (.inr (.inl (w, fun _ => 0))))) = cs') (hu : u.1 + (1 + mm) ≤ ck.1 ∧ u.2 + (mm + mm * w) ≤ ck.2) (hu' : (u.1 + 1 + mm, u.2 + mm + mm * w) = u')
    (q : ab_G k (pc + 4) L (vr (a + m) :: S) (ab_mkc h a cs') (a + m + 1 + mm) u' Q) : ab_G k pc L (vi y :: vi x :: S) (ab_mkc h a cs) (a + m) u Q := by
  subst hm; subst hcs; subst hu'; subst hx; subst hy; subst hck
  rw [ab_s hc hd]
  refine ⟨rfl, rfl, mm, w, S, rfl, h1, h2, hl, hu.1, hu.2, ?_⟩
  have e : ab_mkc h a (cs ++ (.inr (.inr (.inr (6, mm, fun i => if 0 ≤ i ∧ i < mm then some (a + cs.length + 1 + i.toNat) else none))) :: List.replicate mm (.inr (.inr (.inl (w, fun _ => 0)))))) = (fun b => if b = a + cs.length then some (.inr (.inr (.inr (6, mm, fun i => if 0 ≤ i ∧ i < mm then some (a + cs.length + 1 + i.toNat) else none)))) else if a + cs.length < b ∧ b < a + cs.length + 1 + mm then some (.inr (.inr (.inl (w, fun _ => 0)))) else ab_mkc h a cs b) := by
    rw [← ab_mkc_nest]
    funext x
    show (if a + cs.length ≤ x ∧ x < a + cs.length + (List.length (_ :: List.replicate mm _)) then _ else _) = _
    rw [List.length_cons, List.length_replicate]
    by_cases e1 : x = a + cs.length
    · rw [if_pos e1, if_pos ⟨by omega, by omega⟩, show x - (a + cs.length) = 0 by omega]
      rfl
    · rw [if_neg e1]
      by_cases e2 : a + cs.length < x ∧ x < a + cs.length + 1 + mm
      · rw [if_pos e2, if_pos ⟨by omega, by omega⟩, show x - (a + cs.length) = (x - (a + cs.length) - 1) + 1 by omega, List.getElem?_cons_succ, List.getElem?_replicate, if_pos (by omega)]
      · rw [if_neg e2, if_neg (by omega)]
  rw [e] at q
  exact q
end AL
