/-! ===== a rule an instruction ===== -/
theorem ab_GW (E : ab_E) {k pc : Nat} {L : ab_L} {S : List ab_V} {h : ab_H} {n : Nat} {u : Nat × Nat} {Q : ab_Q} (q : ab_G k pc L S h n u Q) : ab_SW E k pc L S h n u Q := q (ab_SW E) (ab_sound E)
/-- field kf of the object of class ci at a -/
def ab_fd (h : ab_H) (a ci kf : Nat) (K : ab_V → Prop) : Prop := match h a with
  | some (.inl (c, fs)) => c = ci ∧ match fs[kf]? with
    | some v => K v
    | none => False
  | _ => False
def ab_fs (h : ab_H) (a ci kf : Nat) (v : ab_V) (K : ab_H → Prop) : Prop := match h a with
  | some (.inl (c, fs)) => c = ci ∧ kf < fs.length ∧ K (ab_hs h a (.inl (ci, fs.set kf v)))
  | _ => False
def ab_ai (h : ab_H) (a t : Nat) (i : Int) (K : Int → Prop) : Prop := match h a with
  | some (.inr (.inl (t', m, f))) => t' = t ∧ 0 ≤ i ∧ i < (m : Int) ∧ K (f i)
  | _ => False
def ab_as (h : ab_H) (a t : Nat) (i x : Int) (K : ab_H → Prop) : Prop := match h a with
  | some (.inr (.inl (t', m, f))) => t' = t ∧ 0 ≤ i ∧ i < (m : Int) ∧ K (ab_hs h a (.inr (.inl (t, m, ab_ui f i x))))
  | _ => False
def ab_al8 (h : ab_H) (a : Nat) (i : Int) (K : Int64 → Prop) : Prop := match h a with
  | some (.inr (.inr (.inl (m, f)))) => 0 ≤ i ∧ i < (m : Int) ∧ K (f i)
  | _ => False
def ab_as8 (h : ab_H) (a : Nat) (i : Int) (x : Int64) (K : ab_H → Prop) : Prop := match h a with
  | some (.inr (.inr (.inl (m, f)))) => 0 ≤ i ∧ i < (m : Int) ∧ K (ab_hs h a (.inr (.inr (.inl (m, ab_ui f i x)))))
  | _ => False
def ab_ar (h : ab_H) (a : Nat) (i : Int) (K : ab_V → Prop) : Prop := match h a with
  | some (.inr (.inr (.inr (_, m, f)))) => 0 ≤ i ∧ i < (m : Int) ∧ K (vo (f i))
  | _ => False
def ab_le (h : ab_H) (a : Nat) (K : Nat → Prop) : Prop := match h a with
  | some c => match ab_alen c with
    | some m => K m
    | none => False
  | none => False
section ABR
variable {k pc : Nat} {b : ByteArray} {L : ab_L} {S : List ab_V} {h : ab_H} {n : Nat} {u : Nat × Nat} {Q : ab_Q}
theorem ab_r_iload_n {j : Fin 4} {x : Int} (hc : ab_code k = b) (hd : decode b pc = .ok (.iload_n j, 1)) (hl : L[(j : Nat)]? = some (some (vi x))) : ab_G k pc L S h n u Q ↔ ab_G k (pc + 1) L (vi x :: S) h n u Q := by
  rw [ab_s hc hd]; exact ⟨fun ⟨_, y, hy, q⟩ => by cases hl.symm.trans hy; exact q, fun q => ⟨rfl, x, hl, q⟩⟩
theorem ab_r_iload {j : Nat} {x : Int} (hc : ab_code k = b) (hd : decode b pc = .ok (.iload j, 2)) (hl : L[j]? = some (some (vi x))) : ab_G k pc L S h n u Q ↔ ab_G k (pc + 2) L (vi x :: S) h n u Q := by
  rw [ab_s hc hd]; exact ⟨fun ⟨_, y, hy, q⟩ => by cases hl.symm.trans hy; exact q, fun q => ⟨rfl, x, hl, q⟩⟩
theorem ab_r_aload_n {j : Fin 4} {x : Nat} (hc : ab_code k = b) (hd : decode b pc = .ok (.aload_n j, 1)) (hl : L[(j : Nat)]? = some (some (vr x))) : ab_G k pc L S h n u Q ↔ ab_G k (pc + 1) L (vr x :: S) h n u Q := by
  rw [ab_s hc hd]; exact ⟨fun ⟨_, y, hy, q⟩ => by cases hl.symm.trans hy; exact q, fun q => ⟨rfl, x, hl, q⟩⟩
theorem ab_r_aload {j : Nat} {x : Nat} (hc : ab_code k = b) (hd : decode b pc = .ok (.aload j, 2)) (hl : L[j]? = some (some (vr x))) : ab_G k pc L S h n u Q ↔ ab_G k (pc + 2) L (vr x :: S) h n u Q := by
  rw [ab_s hc hd]; exact ⟨fun ⟨_, y, hy, q⟩ => by cases hl.symm.trans hy; exact q, fun q => ⟨rfl, x, hl, q⟩⟩
theorem ab_r_lload_n {j : Fin 4} {x : Int64} (hc : ab_code k = b) (hd : decode b pc = .ok (.lload_n j, 1)) (hl : L[(j : Nat)]? = some (some (vl x))) : ab_G k pc L S h n u Q ↔ ab_G k (pc + 1) L (vl x :: S) h n u Q := by
  rw [ab_s hc hd]; exact ⟨fun ⟨_, y, hy, q⟩ => by cases hl.symm.trans hy; exact q, fun q => ⟨rfl, x, hl, q⟩⟩
theorem ab_r_istore_n {j : Fin 4} {x : Int} (hc : ab_code k = b) (hd : decode b pc = .ok (.istore_n j, 1)) (hj : (j : Nat) < L.length) : ab_G k pc L (vi x :: S) h n u Q ↔ ab_nl L = true ∧ ab_G k (pc + 1) (L.set j (some (vi x))) S h n u Q := by
  rw [ab_s hc hd]; exact ⟨fun ⟨_, y, S', e, _, q1, q⟩ => by cases e; exact ⟨q1, q⟩, fun ⟨q1, q⟩ => ⟨rfl, x, S, rfl, hj, q1, q⟩⟩
theorem ab_r_istore {j : Nat} {x : Int} (hc : ab_code k = b) (hd : decode b pc = .ok (.istore j, 2)) (hj : j < L.length) : ab_G k pc L (vi x :: S) h n u Q ↔ ab_nl L = true ∧ ab_G k (pc + 2) (L.set j (some (vi x))) S h n u Q := by
  rw [ab_s hc hd]; exact ⟨fun ⟨_, y, S', e, _, q1, q⟩ => by cases e; exact ⟨q1, q⟩, fun ⟨q1, q⟩ => ⟨rfl, x, S, rfl, hj, q1, q⟩⟩
theorem ab_r_astore_n {j : Fin 4} {x : Nat} (hc : ab_code k = b) (hd : decode b pc = .ok (.astore_n j, 1)) (hj : (j : Nat) < L.length) : ab_G k pc L (vr x :: S) h n u Q ↔ ab_nl L = true ∧ ab_G k (pc + 1) (L.set j (some (vr x))) S h n u Q := by
  rw [ab_s hc hd]; exact ⟨fun ⟨_, y, S', e, _, q1, q⟩ => by cases e; exact ⟨q1, q⟩, fun ⟨q1, q⟩ => ⟨rfl, x, S, rfl, hj, q1, q⟩⟩
theorem ab_r_astore {j : Nat} {x : Nat} (hc : ab_code k = b) (hd : decode b pc = .ok (.astore j, 2)) (hj : j < L.length) : ab_G k pc L (vr x :: S) h n u Q ↔ ab_nl L = true ∧ ab_G k (pc + 2) (L.set j (some (vr x))) S h n u Q := by
  rw [ab_s hc hd]; exact ⟨fun ⟨_, y, S', e, _, q1, q⟩ => by cases e; exact ⟨q1, q⟩, fun ⟨q1, q⟩ => ⟨rfl, x, S, rfl, hj, q1, q⟩⟩
theorem ab_r_iconst {x : Int} (hc : ab_code k = b) (hd : decode b pc = .ok (.iconst x, 1)) : ab_G k pc L S h n u Q ↔ ab_G k (pc + 1) L (vi x :: S) h n u Q := by
  rw [ab_s hc hd]; exact ⟨fun ⟨_, q⟩ => q, fun q => ⟨rfl, q⟩⟩
theorem ab_r_bipush {x : Int} (hc : ab_code k = b) (hd : decode b pc = .ok (.bipush x, 2)) (hx : (Int8.ofInt x).toInt32 = Int32.ofInt x) : ab_G k pc L S h n u Q ↔ ab_G k (pc + 2) L (vi x :: S) h n u Q := by
  rw [ab_s hc hd]; exact ⟨fun ⟨_, _, q⟩ => q, fun q => ⟨rfl, hx, q⟩⟩
theorem ab_r_sipush {x : Int} (hc : ab_code k = b) (hd : decode b pc = .ok (.sipush x, 3)) (hx : (Int16.ofInt x).toInt32 = Int32.ofInt x) : ab_G k pc L S h n u Q ↔ ab_G k (pc + 3) L (vi x :: S) h n u Q := by
  rw [ab_s hc hd]; exact ⟨fun ⟨_, _, q⟩ => q, fun q => ⟨rfl, hx, q⟩⟩
theorem ab_r_lconst {x : Fin 2} (hc : ab_code k = b) (hd : decode b pc = .ok (.lconst x, 1)) : ab_G k pc L S h n u Q ↔ ab_G k (pc + 1) L (vl (Int64.ofNat (x : Nat)) :: S) h n u Q := by
  rw [ab_s hc hd]; exact ⟨fun ⟨_, q⟩ => q, fun q => ⟨rfl, q⟩⟩
theorem ab_r_iadd {x y : Int} (hc : ab_code k = b) (hd : decode b pc = .ok (.iadd, 1)) : ab_G k pc L (vi y :: vi x :: S) h n u Q ↔ ab_G k (pc + 1) L (vi (x + y) :: S) h n u Q := by
  rw [ab_s hc hd]; exact ⟨fun ⟨_, y, x, S', e, q⟩ => by cases e; exact q, fun q => ⟨rfl, y, x, S, rfl, q⟩⟩
theorem ab_r_isub {x y : Int} (hc : ab_code k = b) (hd : decode b pc = .ok (.isub, 1)) : ab_G k pc L (vi y :: vi x :: S) h n u Q ↔ ab_G k (pc + 1) L (vi (x - y) :: S) h n u Q := by
  rw [ab_s hc hd]; exact ⟨fun ⟨_, y, x, S', e, q⟩ => by cases e; exact q, fun q => ⟨rfl, y, x, S, rfl, q⟩⟩
theorem ab_r_imul {x y : Int} (hc : ab_code k = b) (hd : decode b pc = .ok (.imul, 1)) : ab_G k pc L (vi y :: vi x :: S) h n u Q ↔ ab_G k (pc + 1) L (vi (x * y) :: S) h n u Q := by
  rw [ab_s hc hd]; exact ⟨fun ⟨_, y, x, S', e, q⟩ => by cases e; exact q, fun q => ⟨rfl, y, x, S, rfl, q⟩⟩
theorem ab_r_ineg {x : Int} (hc : ab_code k = b) (hd : decode b pc = .ok (.ineg, 1)) : ab_G k pc L (vi x :: S) h n u Q ↔ ab_G k (pc + 1) L (vi (-x) :: S) h n u Q := by
  rw [ab_s hc hd]; exact ⟨fun ⟨_, x, S', e, q⟩ => by cases e; exact q, fun q => ⟨rfl, x, S, rfl, q⟩⟩
theorem ab_r_idiv {x y : Int} (hc : ab_code k = b) (hd : decode b pc = .ok (.idiv, 1)) : ab_G k pc L (vi y :: vi x :: S) h n u Q ↔ ab_inR x ∧ 0 < y ∧ ab_inR y ∧ ab_G k (pc + 1) L (vi (x.tdiv y) :: S) h n u Q := by
  rw [ab_s hc hd]; exact ⟨fun ⟨_, y, x, S', e, q⟩ => by cases e; exact q, fun q => ⟨rfl, y, x, S, rfl, q⟩⟩
theorem ab_r_irem {x y : Int} (hc : ab_code k = b) (hd : decode b pc = .ok (.irem, 1)) : ab_G k pc L (vi y :: vi x :: S) h n u Q ↔ ab_inR x ∧ 0 < y ∧ ab_inR y ∧ ab_G k (pc + 1) L (vi (x.tmod y) :: S) h n u Q := by
  rw [ab_s hc hd]; exact ⟨fun ⟨_, y, x, S', e, q⟩ => by cases e; exact q, fun q => ⟨rfl, y, x, S, rfl, q⟩⟩
theorem ab_r_iand {x : Int} (hc : ab_code k = b) (hd : decode b pc = .ok (.iand, 1)) : ab_G k pc L (vi 63 :: vi x :: S) h n u Q ↔ ab_G k (pc + 1) L (vi (x % 64) :: S) h n u Q := by
  rw [ab_s hc hd]; exact ⟨fun ⟨_, x, S', e, q⟩ => by cases e; exact q, fun q => ⟨rfl, x, S, rfl, q⟩⟩
theorem ab_r_ixor {x y : Int} (hc : ab_code k = b) (hd : decode b pc = .ok (.ixor, 1)) : ab_G k pc L (vi y :: vi x :: S) h n u Q ↔ ab_inR x ∧ 0 ≤ y ∧ ab_inR y ∧ ∀ z, ab_inR z → (z < 0 ↔ x < 0) → ab_G k (pc + 1) L (vi z :: S) h n u Q := by
  rw [ab_s hc hd]; exact ⟨fun ⟨_, y, x, S', e, q⟩ => by cases e; exact q, fun q => ⟨rfl, y, x, S, rfl, q⟩⟩
theorem ab_r_iushr {x : Int} (hc : ab_code k = b) (hd : decode b pc = .ok (.iushr, 1)) : ab_G k pc L (vi 16 :: vi x :: S) h n u Q ↔ ab_G k (pc + 1) L (vi (x % 4294967296 / 65536) :: S) h n u Q := by
  rw [ab_s hc hd]; exact ⟨fun ⟨_, x, S', e, q⟩ => by cases e; exact q, fun q => ⟨rfl, x, S, rfl, q⟩⟩
theorem ab_r_i2l {x : Int} (hc : ab_code k = b) (hd : decode b pc = .ok (.i2l, 1)) : ab_G k pc L (vi x :: S) h n u Q ↔ ab_inR x ∧ ab_G k (pc + 1) L (vl (Int64.ofInt x) :: S) h n u Q := by
  rw [ab_s hc hd]; exact ⟨fun ⟨_, x, S', e, q⟩ => by cases e; exact q, fun q => ⟨rfl, x, S, rfl, q⟩⟩
theorem ab_r_i2b {x : Int} (hc : ab_code k = b) (hd : decode b pc = .ok (.i2b, 1)) : ab_G k pc L (vi x :: S) h n u Q ↔ -128 ≤ x ∧ x < 128 ∧ ab_G k (pc + 1) L (vi x :: S) h n u Q := by
  rw [ab_s hc hd]; exact ⟨fun ⟨_, x, S', e, q⟩ => by cases e; exact q, fun q => ⟨rfl, x, S, rfl, q⟩⟩
theorem ab_r_land {x y : Int64} (hc : ab_code k = b) (hd : decode b pc = .ok (.land, 1)) : ab_G k pc L (vl y :: vl x :: S) h n u Q ↔ ab_G k (pc + 1) L (vl (x &&& y) :: S) h n u Q := by
  rw [ab_s hc hd]; exact ⟨fun ⟨_, y, x, S', e, q⟩ => by cases e; exact q, fun q => ⟨rfl, y, x, S, rfl, q⟩⟩
theorem ab_r_lor {x y : Int64} (hc : ab_code k = b) (hd : decode b pc = .ok (.lor, 1)) : ab_G k pc L (vl y :: vl x :: S) h n u Q ↔ ab_G k (pc + 1) L (vl (x ||| y) :: S) h n u Q := by
  rw [ab_s hc hd]; exact ⟨fun ⟨_, y, x, S', e, q⟩ => by cases e; exact q, fun q => ⟨rfl, y, x, S, rfl, q⟩⟩
theorem ab_r_lshl {y : Int} {x : Int64} (hc : ab_code k = b) (hd : decode b pc = .ok (.lshl, 1)) : ab_G k pc L (vi y :: vl x :: S) h n u Q ↔ ab_G k (pc + 1) L (vl (x <<< ((Int32.ofInt y).toInt64 &&& 63)) :: S) h n u Q := by
  rw [ab_s hc hd]; exact ⟨fun ⟨_, y, x, S', e, q⟩ => by cases e; exact q, fun q => ⟨rfl, y, x, S, rfl, q⟩⟩
theorem ab_r_lcmp {x y : Int64} (hc : ab_code k = b) (hd : decode b pc = .ok (.lcmp, 1)) : ab_G k pc L (vl y :: vl x :: S) h n u Q ↔ ∀ z, ab_inR z → (z = 0 ↔ x = y) → ab_G k (pc + 1) L (vi z :: S) h n u Q := by
  rw [ab_s hc hd]; exact ⟨fun ⟨_, y, x, S', e, q⟩ => by cases e; exact q, fun q => ⟨rfl, y, x, S, rfl, q⟩⟩
theorem ab_r_dup {v : ab_V} (hc : ab_code k = b) (hd : decode b pc = .ok (.dup, 1)) : ab_G k pc L (v :: S) h n u Q ↔ ab_cat v = 1 ∧ ab_G k (pc + 1) L (v :: v :: S) h n u Q := by
  rw [ab_s hc hd]; exact ⟨fun ⟨_, y, S', e, q⟩ => by cases e; exact q, fun q => ⟨rfl, v, S, rfl, q⟩⟩
theorem ab_r_pop {v : ab_V} (hc : ab_code k = b) (hd : decode b pc = .ok (.pop, 1)) : ab_G k pc L (v :: S) h n u Q ↔ ab_cat v = 1 ∧ ab_G k (pc + 1) L S h n u Q := by
  rw [ab_s hc hd]; exact ⟨fun ⟨_, y, S', e, q⟩ => by cases e; exact q, fun q => ⟨rfl, v, S, rfl, q⟩⟩
theorem ab_r_iinc {j : Nat} {d x : Int} (hc : ab_code k = b) (hd : decode b pc = .ok (.iinc j d, 3)) (hl : L[j]? = some (some (vi x))) : ab_G k pc L S h n u Q ↔ ab_nl L = true ∧ ab_G k (pc + 3) (L.set j (some (vi (x + d)))) S h n u Q := by
  rw [ab_s hc hd]; exact ⟨fun ⟨_, y, hy, q⟩ => by cases hl.symm.trans hy; exact q, fun q => ⟨rfl, x, hl, q⟩⟩
theorem ab_r_goto {off : Int} {t : Nat} (hc : ab_code k = b) (hd : decode b pc = .ok (.goto off, 3)) (ht : (pc : Int) + off = (t : Int)) : ab_G k pc L S h n u Q ↔ ab_G k t L S h n u Q := by
  rw [ab_s hc hd]; exact ⟨fun ⟨_, t', ht', q⟩ => by rw [show t = t' by omega]; exact q, fun q => ⟨rfl, t, ht, q⟩⟩
theorem ab_r_if {c : ClassFile.Cond} {off x : Int} {t : Nat} (hc : ab_code k = b) (hd : decode b pc = .ok (.ifCond c off, 3)) (ht : (pc : Int) + off = (t : Int)) : ab_G k pc L (vi x :: S) h n u Q ↔ ab_inR x ∧ (ab_cc c x 0 → ab_G k t L S h n u Q) ∧ (¬ ab_cc c x 0 → ab_G k (pc + 3) L S h n u Q) := by
  rw [ab_s hc hd]; exact ⟨fun ⟨_, x, S', e, q1, t', ht', q⟩ => by cases e; rw [show t = t' by omega]; exact ⟨q1, q⟩, fun ⟨q1, q⟩ => ⟨rfl, x, S, rfl, q1, t, ht, q⟩⟩
theorem ab_r_icmp {c : ClassFile.Cond} {off x y : Int} {t : Nat} (hc : ab_code k = b) (hd : decode b pc = .ok (.if_icmp c off, 3)) (ht : (pc : Int) + off = (t : Int)) : ab_G k pc L (vi y :: vi x :: S) h n u Q ↔ ab_inR x ∧ ab_inR y ∧ (ab_cc c x y → ab_G k t L S h n u Q) ∧ (¬ ab_cc c x y → ab_G k (pc + 3) L S h n u Q) := by
  rw [ab_s hc hd]; exact ⟨fun ⟨_, y, x, S', e, q1, q2, t', ht', q⟩ => by cases e; rw [show t = t' by omega]; exact ⟨q1, q2, q⟩, fun ⟨q1, q2, q⟩ => ⟨rfl, y, x, S, rfl, q1, q2, t, ht, q⟩⟩
theorem ab_r_ireturn {x : Int} (hc : ab_code k = b) (hd : decode b pc = .ok (.ireturn, 1)) (hr : ab_ret k = some .int) : ab_G k pc L [vi x] h n u Q ↔ (u.1 ≤ (ab_cost k).1 ∧ u.2 ≤ (ab_cost k).2) ∧ Q (some (vi x)) h n := by
  rw [ab_s hc hd]; exact ⟨fun ⟨_, q1, q2, y, e, _, q⟩ => by cases e; exact ⟨⟨q1, q2⟩, q⟩, fun ⟨⟨q1, q2⟩, q⟩ => ⟨rfl, q1, q2, x, rfl, Or.inl hr, q⟩⟩
theorem ab_r_zreturn {x : Int} (hc : ab_code k = b) (hd : decode b pc = .ok (.ireturn, 1)) (hr : ab_ret k = some .boolean) : ab_G k pc L [vi x] h n u Q ↔ (u.1 ≤ (ab_cost k).1 ∧ u.2 ≤ (ab_cost k).2) ∧ (x = 0 ∨ x = 1) ∧ Q (some (vi x)) h n := by
  rw [ab_s hc hd]; exact ⟨fun ⟨_, q1, q2, y, e, q3, q⟩ => by cases e; exact ⟨⟨q1, q2⟩, q3.elim (fun z => by rw [hr] at z; cases z) (fun z => z.2), q⟩, fun ⟨⟨q1, q2⟩, q3, q⟩ => ⟨rfl, q1, q2, x, rfl, Or.inr ⟨hr, q3⟩, q⟩⟩
theorem ab_r_lreturn {x : Int64} (hc : ab_code k = b) (hd : decode b pc = .ok (.lreturn, 1)) (hr : ab_ret k = some .long) : ab_G k pc L [vl x] h n u Q ↔ (u.1 ≤ (ab_cost k).1 ∧ u.2 ≤ (ab_cost k).2) ∧ Q (some (vl x)) h n := by
  rw [ab_s hc hd]; exact ⟨fun ⟨_, q1, q2, _, y, e, q⟩ => by cases e; exact ⟨⟨q1, q2⟩, q⟩, fun ⟨⟨q1, q2⟩, q⟩ => ⟨rfl, q1, q2, hr, x, rfl, q⟩⟩
theorem ab_r_areturn {x : Nat} (hc : ab_code k = b) (hd : decode b pc = .ok (.areturn, 1)) (hr : ∃ C, ab_ret k = some (.object C)) : ab_G k pc L [vr x] h n u Q ↔ (u.1 ≤ (ab_cost k).1 ∧ u.2 ≤ (ab_cost k).2) ∧ Q (some (vr x)) h n := by
  rw [ab_s hc hd]; exact ⟨fun ⟨_, q1, q2, _, y, e, q⟩ => by cases e; exact ⟨⟨q1, q2⟩, q⟩, fun ⟨⟨q1, q2⟩, q⟩ => ⟨rfl, q1, q2, hr, x, rfl, q⟩⟩
theorem ab_r_return {hc : ab_code k = b} (hd : decode b pc = .ok (.return_, 1)) (hr : ab_ret k = none) : ab_G k pc L [] h n u Q ↔ (u.1 ≤ (ab_cost k).1 ∧ u.2 ≤ (ab_cost k).2) ∧ Q none h n := by
  rw [ab_s hc hd]; exact ⟨fun ⟨_, q1, q2, _, _, q⟩ => ⟨⟨q1, q2⟩, q⟩, fun ⟨⟨q1, q2⟩, q⟩ => ⟨rfl, q1, q2, hr, rfl, q⟩⟩
theorem ab_r_ldc {idx : Nat} {x : Int} (hc : ab_code k = b) (hd : decode b pc = .ok (.ldc idx, 2)) (hx : x = (ab_lk (ab_on k) idx : Nat)) (hw : Cond.constant (ab_own k) idx (Int32.ofInt x) ∈ lw_tbl) : ab_G k pc L S h n u Q ↔ ab_G k (pc + 2) L (vi x :: S) h n u Q := by
  rw [ab_s hc hd]; exact ⟨fun ⟨_, y, ⟨hy, _⟩, q⟩ => by rw [hx, ← hy]; exact q, fun q => ⟨rfl, x, ⟨hx, hw⟩, q⟩⟩
theorem ab_r_ldc_w {idx : Nat} {x : Int} (hc : ab_code k = b) (hd : decode b pc = .ok (.ldc_w idx, 3)) (hx : x = (ab_lk (ab_on k) idx : Nat)) (hw : Cond.constant (ab_own k) idx (Int32.ofInt x) ∈ lw_tbl) : ab_G k pc L S h n u Q ↔ ab_G k (pc + 3) L (vi x :: S) h n u Q := by
  rw [ab_s hc hd]; exact ⟨fun ⟨_, y, ⟨hy, _⟩, q⟩ => by rw [hx, ← hy]; exact q, fun q => ⟨rfl, x, ⟨hx, hw⟩, q⟩⟩
theorem ab_r_ldc2_w {idx : Nat} {x : Int64} (hc : ab_code k = b) (hd : decode b pc = .ok (.ldc2_w idx, 3)) (hx : x = ab_c8 (ab_lk (ab_on k) idx)) (hw : Cond.constantLong (ab_own k) idx x ∈ lw_tbl) : ab_G k pc L S h n u Q ↔ ab_G k (pc + 3) L (vl x :: S) h n u Q := by
  rw [ab_s hc hd]; exact ⟨fun ⟨_, y, ⟨hy, _⟩, q⟩ => by rw [hx, ← hy]; exact q, fun q => ⟨rfl, x, ⟨hx, hw⟩, q⟩⟩
theorem ab_r_getstatic {idx i : Nat} (hc : ab_code k = b) (hd : decode b pc = .ok (.getstatic idx, 3)) (hi : 1 ≤ i ∧ i < 6) (hk : ab_lk (ab_on k) idx = 990 + i) (hw : Cond.fieldLink (ab_own k) idx (ab_stn i).1 (ab_stn i).2.1 (ab_stn i).2.2 ∈ lw_tbl ∨ ∃ host, Cond.fieldLinkNest (ab_own k) idx (ab_stn i).1 (ab_stn i).2.1 (ab_stn i).2.2 host ∈ lw_tbl) : ab_G k pc L S h n u Q ↔ ab_G k (pc + 3) L (vr i :: S) h n u Q := by
  rw [ab_s hc hd]; exact ⟨fun ⟨_, i', _, _, e, _, q⟩ => by rw [show i = i' by omega]; exact q, fun q => ⟨rfl, i, hi.1, hi.2, hk, hw, q⟩⟩
theorem ab_r_getfield {idx ci kf a : Nat} (hc : ab_code k = b) (hd : decode b pc = .ok (.getfield idx, 3)) (hx : ab_xl k idx ci kf) : ab_G k pc L (vr a :: S) h n u Q ↔ 6 ≤ a ∧ ab_fd h a ci kf (fun v => ab_G k (pc + 3) L (v :: S) h n u Q) := by
  rw [ab_s hc hd]
  constructor
  · rintro ⟨_, a', S', ci', fs, kf', v, e, ha, h6, ⟨⟨g1, g2⟩, _⟩, hv, q⟩
    cases e
    obtain ⟨⟨g3, g4⟩, _⟩ := hx
    rw [show ci = ci' by omega, show kf = kf' by omega]
    exact ⟨h6, by unfold ab_fd; rw [ha]; exact ⟨rfl, by rw [hv]; exact q⟩⟩
  · rintro ⟨h6, q⟩
    unfold ab_fd at q
    split at q
    · rename_i c fs ha
      obtain ⟨rfl, q⟩ := q
      split at q
      · rename_i v hv
        exact ⟨rfl, a, S, c, fs, kf, v, rfl, ha, h6, hx, hv, q⟩
      · exact q.elim
    · exact q.elim
theorem ab_r_putfield {idx ci kf a : Nat} {v : ab_V} (hc : ab_code k = b) (hd : decode b pc = .ok (.putfield idx, 3)) (hx : ab_xp k idx ci kf) : ab_G k pc L (v :: vr a :: S) h n u Q ↔ 6 ≤ a ∧ ab_fit (ab_tyf ci kf) v ∧ ab_fs h a ci kf v (fun h' => ab_G k (pc + 3) L S h' n u Q) := by
  rw [ab_s hc hd]
  constructor
  · rintro ⟨_, v', a', S', ci', fs, kf', e, ha, h6, ⟨⟨g1, g2⟩, _⟩, hv, hf, q⟩
    cases e
    obtain ⟨⟨g3, g4⟩, _⟩ := hx
    rw [show ci = ci' by omega, show kf = kf' by omega]
    exact ⟨h6, hf, by unfold ab_fs; rw [ha]; exact ⟨rfl, hv, q⟩⟩
  · rintro ⟨h6, hf, q⟩
    unfold ab_fs at q
    split at q
    · rename_i c fs ha
      obtain ⟨rfl, hv, q⟩ := q
      exact ⟨rfl, v, a, S, c, fs, kf, rfl, ha, h6, hx, hv, hf, q⟩
    · exact q.elim
theorem ab_r_iaload {i : Int} {a : Nat} (hc : ab_code k = b) (hd : decode b pc = .ok (.iaload, 1)) : ab_G k pc L (vi i :: vr a :: S) h n u Q ↔ ab_ai h a 0 i (fun x => ab_G k (pc + 1) L (vi x :: S) h n u Q) := by
  rw [ab_s hc hd]
  constructor
  · rintro ⟨_, i', a', S', m, f, e, ha, h0, h1, q⟩
    cases e
    unfold ab_ai; rw [ha]; exact ⟨rfl, h0, h1, q⟩
  · intro q
    unfold ab_ai at q
    split at q
    · rename_i t m f ha
      obtain ⟨rfl, h0, h1, q⟩ := q
      exact ⟨rfl, i, a, S, m, f, rfl, ha, h0, h1, q⟩
    · exact q.elim
theorem ab_r_baload {t : Nat} {i : Int} {a : Nat} (hc : ab_code k = b) (hd : decode b pc = .ok (.baload, 1)) (ht : t = 1 ∨ t = 2) (q : 6 ≤ a ∧ ab_ai h a t i (fun x => ab_G k (pc + 1) L (vi x :: S) h n u Q)) : ab_G k pc L (vi i :: vr a :: S) h n u Q := by
  rw [ab_s hc hd]
  obtain ⟨h6, q⟩ := q
  unfold ab_ai at q
  split at q
  · rename_i t m f ha
    obtain ⟨rfl, h0, h1, q⟩ := q
    exact ⟨rfl, i, a, S, t, m, f, rfl, ha, h6, ht, h0, h1, q⟩
  · exact q.elim
theorem ab_r_laload {i : Int} {a : Nat} (hc : ab_code k = b) (hd : decode b pc = .ok (.laload, 1)) : ab_G k pc L (vi i :: vr a :: S) h n u Q ↔ 6 ≤ a ∧ ab_al8 h a i (fun x => ab_G k (pc + 1) L (vl x :: S) h n u Q) := by
  rw [ab_s hc hd]
  constructor
  · rintro ⟨_, i', a', S', m, f, e, ha, h6, h0, h1, q⟩
    cases e
    exact ⟨h6, by unfold ab_al8; rw [ha]; exact ⟨h0, h1, q⟩⟩
  · rintro ⟨h6, q⟩
    unfold ab_al8 at q
    split at q
    · rename_i m f ha
      obtain ⟨h0, h1, q⟩ := q
      exact ⟨rfl, i, a, S, m, f, rfl, ha, h6, h0, h1, q⟩
    · exact q.elim
theorem ab_r_aaload {i : Int} {a : Nat} (hc : ab_code k = b) (hd : decode b pc = .ok (.aaload, 1)) : ab_G k pc L (vi i :: vr a :: S) h n u Q ↔ 6 ≤ a ∧ ab_ar h a i (fun x => ab_G k (pc + 1) L (x :: S) h n u Q) := by
  rw [ab_s hc hd]
  constructor
  · rintro ⟨_, i', a', S', t, m, f, e, ha, h6, h0, h1, q⟩
    cases e
    exact ⟨h6, by unfold ab_ar; rw [ha]; exact ⟨h0, h1, q⟩⟩
  · rintro ⟨h6, q⟩
    unfold ab_ar at q
    split at q
    · rename_i t m f ha
      obtain ⟨h0, h1, q⟩ := q
      exact ⟨rfl, i, a, S, t, m, f, rfl, ha, h6, h0, h1, q⟩
    · exact q.elim
theorem ab_r_iastore {i x : Int} {a : Nat} (hc : ab_code k = b) (hd : decode b pc = .ok (.iastore, 1)) : ab_G k pc L (vi x :: vi i :: vr a :: S) h n u Q ↔ 6 ≤ a ∧ ab_as h a 0 i x (fun h' => ab_G k (pc + 1) L S h' n u Q) := by
  rw [ab_s hc hd]
  constructor
  · rintro ⟨_, x', i', a', S', m, f, e, ha, h6, h0, h1, q⟩
    cases e
    exact ⟨h6, by unfold ab_as; rw [ha]; exact ⟨rfl, h0, h1, q⟩⟩
  · rintro ⟨h6, q⟩
    unfold ab_as at q
    split at q
    · rename_i t m f ha
      obtain ⟨rfl, h0, h1, q⟩ := q
      exact ⟨rfl, x, i, a, S, m, f, rfl, ha, h6, h0, h1, q⟩
    · exact q.elim
theorem ab_r_bastore {t : Nat} {i x : Int} {a : Nat} (hc : ab_code k = b) (hd : decode b pc = .ok (.bastore, 1)) (q : 6 ≤ a ∧ ((t = 1 ∧ -128 ≤ x ∧ x < 128) ∨ (t = 2 ∧ (x = 0 ∨ x = 1))) ∧ ab_as h a t i x (fun h' => ab_G k (pc + 1) L S h' n u Q)) : ab_G k pc L (vi x :: vi i :: vr a :: S) h n u Q := by
  rw [ab_s hc hd]
  obtain ⟨h6, ht, q⟩ := q
  unfold ab_as at q
  split at q
  · rename_i t m f ha
    obtain ⟨rfl, h0, h1, q⟩ := q
    exact ⟨rfl, x, i, a, S, t, m, f, rfl, ha, h6, ht, h0, h1, q⟩
  · exact q.elim
theorem ab_r_lastore {i : Int} {x : Int64} {a : Nat} (hc : ab_code k = b) (hd : decode b pc = .ok (.lastore, 1)) : ab_G k pc L (vl x :: vi i :: vr a :: S) h n u Q ↔ 6 ≤ a ∧ ab_as8 h a i x (fun h' => ab_G k (pc + 1) L S h' n u Q) := by
  rw [ab_s hc hd]
  constructor
  · rintro ⟨_, x', i', a', S', m, f, e, ha, h6, h0, h1, q⟩
    cases e
    exact ⟨h6, by unfold ab_as8; rw [ha]; exact ⟨h0, h1, q⟩⟩
  · rintro ⟨h6, q⟩
    unfold ab_as8 at q
    split at q
    · rename_i m f ha
      obtain ⟨h0, h1, q⟩ := q
      exact ⟨rfl, x, i, a, S, m, f, rfl, ha, h6, h0, h1, q⟩
    · exact q.elim
theorem ab_r_alen {a : Nat} (hc : ab_code k = b) (hd : decode b pc = .ok (.arraylength, 1)) : ab_G k pc L (vr a :: S) h n u Q ↔ ab_le h a (fun m => ab_G k (pc + 1) L (vi m :: S) h n u Q) := by
  rw [ab_s hc hd]
  constructor
  · rintro ⟨_, a', S', c, m, e, ha, hm, q⟩
    cases e
    unfold ab_le; rw [ha]; dsimp only; rw [hm]; exact q
  · intro q
    unfold ab_le at q
    split at q
    · rename_i c ha
      split at q
      · rename_i m hm
        exact ⟨rfl, a, S, c, m, rfl, ha, hm, q⟩
      · exact q.elim
    · exact q.elim
end ABR
