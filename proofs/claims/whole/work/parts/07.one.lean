theorem ab_in2 : ∀ w ∈ u_ws RX2 TX2 6, w ∈ ab_T := fun w hw => ab_tin (by
  have h : ∀ w ∈ u_ws RX2 TX2 6, w ∈ lw_tbl := by decide +kernel
  exact h w hw) (by
  have h : ∀ w ∈ u_ws RX2 TX2 6, goodWord w = true := by decide +kernel
  exact h w hw)
theorem ab_in3 : ∀ w ∈ u_ws RX3 TX3 7, w ∈ ab_T := fun w hw => ab_tin (by
  have h : ∀ w ∈ u_ws RX3 TX3 7, w ∈ lw_tbl := by decide +kernel
  exact h w hw) (by
  have h : ∀ w ∈ u_ws RX3 TX3 7, goodWord w = true := by decide +kernel
  exact h w hw)
theorem ab_in4 : ∀ w ∈ u_ws RX4 TX4 5, w ∈ ab_T := fun w hw => ab_tin (by
  have h : ∀ w ∈ u_ws RX4 TX4 5, w ∈ lw_tbl := by decide +kernel
  exact h w hw) (by
  have h : ∀ w ∈ u_ws RX4 TX4 5, goodWord w = true := by decide +kernel
  exact h w hw)
theorem ab_in6 : ∀ w ∈ u_ws RX6 TX6 4, w ∈ ab_T := fun w hw => ab_tin (by
  have h : ∀ w ∈ u_ws RX6 TX6 4, w ∈ lw_tbl := by decide +kernel
  exact h w hw) (by
  have h : ∀ w ∈ u_ws RX6 TX6 4, goodWord w = true := by decide +kernel
  exact h w hw)
theorem ab_in7 : ∀ w ∈ u_ws RX7 TX7 6, w ∈ ab_T := fun w hw => ab_tin (by
  have h : ∀ w ∈ u_ws RX7 TX7 6, w ∈ lw_tbl := by decide +kernel
  exact h w hw) (by
  have h : ∀ w ∈ u_ws RX7 TX7 6, goodWord w = true := by decide +kernel
  exact h w hw)
theorem ab_in10 : ∀ w ∈ u_ws RX10 TX10 2, w ∈ ab_T := fun w hw => ab_tin (by
  have h : ∀ w ∈ u_ws RX10 TX10 2, w ∈ lw_tbl := by decide +kernel
  exact h w hw) (by
  have h : ∀ w ∈ u_ws RX10 TX10 2, goodWord w = true := by decide +kernel
  exact h w hw)
theorem ab_in11 : ∀ w ∈ u_ws RX11 TX11 11, w ∈ ab_T := fun w hw => ab_tin (by
  have h : ∀ w ∈ u_ws RX11 TX11 11, w ∈ lw_tbl := by decide +kernel
  exact h w hw) (by
  have h : ∀ w ∈ u_ws RX11 TX11 11, goodWord w = true := by decide +kernel
  exact h w hw)
theorem ab_in12 : ∀ w ∈ u_ws RX12 TX12 34, w ∈ ab_T := fun w hw => ab_tin (by
  have h : ∀ w ∈ u_ws RX12 TX12 34, w ∈ lw_tbl := by decide +kernel
  exact h w hw) (by
  have h : ∀ w ∈ u_ws RX12 TX12 34, goodWord w = true := by decide +kernel
  exact h w hw)
/-! ===== the judgement is true of the real machine: single instructions ===== -/
theorem ab_catv {E : ab_E} (v : ab_V) : (ab_rv E v).category = ab_cat v := by
  rcases v with x | x | _ | x <;> rfl
theorem ab_tb32 (x : Int) : (Int32.ofInt x).toBitVec.toNat = (x % 4294967296).toNat := by
  show (BitVec.ofInt 32 x).toNat = _
  rw [BitVec.toNat_ofInt]
  rfl
theorem ab_ofNat (n : Nat) : nI n = Int32.ofInt (n : Int) := by
  apply Int32.toBitVec_inj.mp
  show BitVec.ofNat 32 n = BitVec.ofInt 32 n
  rw [BitVec.ofInt_natCast]
theorem ab_and63 (x : Int) : Int32.ofInt x &&& Int32.ofInt 63 = Int32.ofInt (x % 64) := by
  rw [pk_and (Int32.ofInt x) (m := Int32.ofInt 63) 6 (by decide), ab_tb32, ab_ofNat]
  congr 1
  omega
theorem ab_iush (x : Int) : ((Int32.ofInt x).toUInt32 >>> ((Int32.ofInt 16).toUInt32 &&& Int32.toUInt32 31)).toInt32 = Int32.ofInt (x % 4294967296 / 65536) := by
  apply Int32.toBitVec_inj.mp
  apply BitVec.eq_of_toNat_eq
  rw [pk_ushr (Int32.ofInt x) (Int32.ofInt 16) 16 (by decide), ab_tb32, ab_tb32]
  omega
theorem ab_ixor {x y : Int} (hx : ab_inR x) (h0 : 0 ≤ y) (hy : ab_inR y) : ∃ z, ab_inR z ∧ (z < 0 ↔ x < 0) ∧ Int32.ofInt x ^^^ Int32.ofInt y = Int32.ofInt z := by
  refine ⟨(Int32.ofInt x ^^^ Int32.ofInt y).toInt, ?_, ?_, (Int32.ofInt_toInt _).symm⟩
  · have h1 := Int32.le_toInt (Int32.ofInt x ^^^ Int32.ofInt y)
    have h2 := Int32.toInt_lt (Int32.ofInt x ^^^ Int32.ofInt y)
    omega
  · have hm : ∀ z : Int32, z.toInt < 0 ↔ z.toBitVec.msb = true := fun z => by
      show z.toBitVec.toInt < 0 ↔ _
      rw [BitVec.msb_eq_toInt]; simp
    rw [hm, Int32.toBitVec_xor, BitVec.msb_xor]
    have e1 := hm (Int32.ofInt x)
    have e2 := hm (Int32.ofInt y)
    rw [ab_ti hx] at e1
    rw [ab_ti hy] at e2
    have e3 : (Int32.ofInt y).toBitVec.msb = false := by
      cases hh : (Int32.ofInt y).toBitVec.msb with
      | false => rfl
      | true => have := e2.mpr hh; omega
    rw [e3, e1]
    simp
theorem ab_i2l {x : Int} (hx : ab_inR x) : (Int32.ofInt x).toInt64 = Int64.ofInt x := by
  apply Int64.toInt_inj.mp
  rw [Int32.toInt_toInt64, ab_ti hx, Int64.toInt_ofInt]
  have hb : x.bmod 18446744073709551616 = x := Int.bmod_eq_of_le (by omega) (by omega)
  exact hb.symm
theorem ab_i2b {x : Int} (h1 : -128 ≤ x) (h2 : x < 128) : (Int32.ofInt x).toInt8.toInt32 = Int32.ofInt x := by
  apply Int32.toInt_inj.1
  rw [Int8.toInt_toInt32, Int32.toInt_toInt8, ab_ti ⟨by omega, by omega⟩, Int.bmod_eq_of_le (by omega) (by omega)]
theorem ab_lcmp (x y : Int64) : ∃ z, ab_inR z ∧ (z = 0 ↔ x = y) ∧ lg_cmp x y = Int32.ofInt z := by
  unfold lg_cmp
  by_cases h1 : x > y
  · rw [if_pos h1]
    exact ⟨1, by omega, ⟨fun h => by omega, fun h => by subst h; exact absurd h1 (Int64.lt_irrefl)⟩, rfl⟩
  · rw [if_neg h1]
    by_cases h2 : x = y
    · rw [if_pos h2]
      exact ⟨0, by omega, ⟨fun _ => h2, fun _ => rfl⟩, rfl⟩
    · rw [if_neg h2]
      exact ⟨-1, by omega, ⟨fun h => by omega, fun h => absurd h h2⟩, rfl⟩
/-- what a class's fields are known by -/
theorem ab_cls {ci : Nat} {C : String} {T : u_T} {N : Nat} (h : vwCl[ci]? = some (C, T, N)) : (∀ w ∈ u_ws C T N, w ∈ ab_T) ∧ (∀ k, k < N → parseFieldDescriptor (T k).2.2.1 = some (ab_tyf ci k)) ∧ (∀ a, a < N → ∀ b, b < N → a ≠ b → (T a).2.1 ≠ (T b).2.1) := by
  match ci, h with
  | 0, h => cases h; exact ⟨fun w hw => (by simp [u_ws] at hw), fun k hk => absurd hk (Nat.not_lt_zero k), fun k hk => absurd hk (Nat.not_lt_zero k)⟩
  | 1, h => cases h; exact ⟨fun w hw => (by simp [u_ws] at hw), fun k hk => absurd hk (Nat.not_lt_zero k), fun k hk => absurd hk (Nat.not_lt_zero k)⟩
  | 2, h => cases h; exact ⟨ab_in2, tyX2_ok, nmX2⟩
  | 3, h => cases h; exact ⟨ab_in3, tyX3_ok, nmX3⟩
  | 4, h => cases h; exact ⟨ab_in4, tyX4_ok, nmX4⟩
  | 5, h => cases h; exact ⟨fun w hw => (by simp [u_ws] at hw), fun k hk => absurd hk (Nat.not_lt_zero k), fun k hk => absurd hk (Nat.not_lt_zero k)⟩
  | 6, h => cases h; exact ⟨ab_in6, tyX6_ok, nmX6⟩
  | 7, h => cases h; exact ⟨ab_in7, tyX7_ok, nmX7⟩
  | 8, h => cases h; exact ⟨fun w hw => (by simp [u_ws] at hw), fun k hk => absurd hk (Nat.not_lt_zero k), fun k hk => absurd hk (Nat.not_lt_zero k)⟩
  | 9, h => cases h; exact ⟨fun w hw => (by simp [u_ws] at hw), fun k hk => absurd hk (Nat.not_lt_zero k), fun k hk => absurd hk (Nat.not_lt_zero k)⟩
  | 10, h => cases h; exact ⟨ab_in10, tyX10_ok, nmX10⟩
  | 11, h => cases h; exact ⟨ab_in11, tyX11_ok, nmX11⟩
  | 12, h => cases h; exact ⟨ab_in12, tyX12_ok, nmX12⟩
  | k + 13, h => simp [vwCl] at h
