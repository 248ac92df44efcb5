/-! ===== the plain machine's judgement: unfolding, and that it grows with its end ===== -/
theorem ab_al {α : Sort _} {p q : α → Prop} (h : ∀ a, p a → q a) : (∀ a, p a) → (∀ a, q a) := fun H a => h a (H a)
set_option maxHeartbeats 4000000 in
theorem ab_I_mono {P P' : ab_P} {Q Q' : ab_Q} {i : Instr} {len k pc : Nat} {L : ab_L} {S : List ab_V} {h : ab_H} {n : Nat} {u : Nat × Nat}
    (hP : ∀ pc L S h n u, P k pc L S h n u Q → P' k pc L S h n u Q') (hR : ∀ j pc L S h n u R, P j pc L S h n u R → P' j pc L S h n u R) (hQ : ∀ r h n, Q r h n → Q' r h n) :
    ab_I P i len k pc L S h n u Q → ab_I P' i len k pc L S h n u Q' := by
  cases i <;> first
    | exact fun q => q
    | (dsimp only [ab_I, ab_call, ab_acp, ab_mnp]
       repeat' (first | exact fun q => q | exact hP _ _ _ _ _ _ | exact hR _ _ _ _ _ _ _ _ | exact hQ _ _ _ | refine And.imp ?_ ?_ | refine Exists.imp fun _ => ?_ | refine Or.imp ?_ ?_ | refine ab_al fun _ => ?_))
theorem ab_F_mono {P P' : ab_P} {Q Q' : ab_Q} {k pc : Nat} {L : ab_L} {S : List ab_V} {h : ab_H} {n : Nat} {u : Nat × Nat}
    (hP : ∀ pc L S h n u, P k pc L S h n u Q → P' k pc L S h n u Q') (hR : ∀ j pc L S h n u R, P j pc L S h n u R → P' j pc L S h n u R) (hQ : ∀ r h n, Q r h n → Q' r h n) :
    ab_F P k pc L S h n u Q → ab_F P' k pc L S h n u Q' := fun ⟨i, len, hd, q⟩ => ⟨i, len, hd, ab_I_mono hP hR hQ q⟩
theorem ab_G_in {k pc : Nat} {L : ab_L} {S : List ab_V} {h : ab_H} {n : Nat} {u : Nat × Nat} {Q : ab_Q} (q : ab_F ab_G k pc L S h n u Q) : ab_G k pc L S h n u Q :=
  fun P hP => hP _ _ _ _ _ _ _ _ (ab_F_mono (fun _ _ _ _ _ _ g => g P hP) (fun _ _ _ _ _ _ _ _ g => g P hP) (fun _ _ _ z => z) q)
theorem ab_G_out {k pc : Nat} {L : ab_L} {S : List ab_V} {h : ab_H} {n : Nat} {u : Nat × Nat} {Q : ab_Q} (q : ab_G k pc L S h n u Q) : ab_F ab_G k pc L S h n u Q :=
  q (fun k pc L S h n u Q => ab_F ab_G k pc L S h n u Q) (fun _ _ _ _ _ _ _ _ z => ab_F_mono (fun _ _ _ _ _ _ g => ab_G_in g) (fun _ _ _ _ _ _ _ _ g => ab_G_in g) (fun _ _ _ z => z) z)
theorem ab_G_mono {k pc : Nat} {L : ab_L} {S : List ab_V} {h : ab_H} {n : Nat} {u : Nat × Nat} {Q Q' : ab_Q} (hQ : ∀ r h n, Q r h n → Q' r h n) (q : ab_G k pc L S h n u Q) : ab_G k pc L S h n u Q' := by
  refine q (fun k pc L S h n u Q => ∀ Q' : ab_Q, (∀ r h n, Q r h n → Q' r h n) → ab_G k pc L S h n u Q') (fun k pc L S h n u Q z Q' hQ' => ?_) Q' hQ
  exact ab_G_in (ab_F_mono (fun _ _ _ _ _ _ g => g Q' hQ') (fun _ _ _ _ _ _ _ R g => g R (fun _ _ _ w => w)) hQ' z)
theorem ab_s {k pc : Nat} {L : ab_L} {S : List ab_V} {h : ab_H} {n : Nat} {u : Nat × Nat} {Q : ab_Q} {b : ByteArray} {i : Instr} {len : Nat} (hc : ab_code k = b) (hd : decode b pc = .ok (i, len)) : ab_G k pc L S h n u Q ↔ ab_I ab_G i len k pc L S h n u Q := by
  constructor
  · intro q
    obtain ⟨i', len', hd', z⟩ := ab_G_out q
    rw [hc, hd] at hd'
    cases hd'
    exact z
  · exact fun q => ab_G_in ⟨i, len, by rw [hc]; exact hd, q⟩
/-- a call: what comes behind it is the callee's end -/
theorem ab_call_iff {j : Nat} {As : List ab_V} {k pc : Nat} {L : ab_L} {rest : List ab_V} {h : ab_H} {n : Nat} {u : Nat × Nat} {Q : ab_Q} :
    ab_call ab_G j As k pc L rest h n u Q ↔ (rest.map ab_cat).sum ≤ 8 ∧ (ab_sl As).length ≤ ab_maxL j ∧ ab_dep j + 1 ≤ ab_dep k ∧ u.1 + (ab_cost j).1 ≤ (ab_cost k).1 ∧ u.2 + (ab_cost j).2 ≤ (ab_cost k).2 ∧
      ab_G j 0 (ab_ent (ab_maxL j) As) [] h n (0, 0) (fun r h' n' => ab_G k (pc + 3) L (r.toList ++ rest) h' n' (u.1 + (ab_cost j).1, u.2 + (ab_cost j).2) Q) := by
  unfold ab_call
  refine and_congr_right fun _ => and_congr_right fun _ => and_congr_right fun _ => and_congr_right fun _ => and_congr_right fun _ => ?_
  exact ⟨fun ⟨R, a, b⟩ => ab_G_mono b a, fun a => ⟨_, a, fun _ _ _ q => q⟩⟩
