/-! Small rows on numbers, and what the fresh cellar's answers are. -/
theorem q_ne1 {n : Nat} {c : Int32} (hc : c < 0) (h : n < 2 ^ 31) : ¬ nI n = c := fun e => nI_pos h (e ▸ hc)
theorem q_inc (k : Nat) : nI k + Int32.ofInt 1 = nI (k + 1) := nI_1 k
theorem q_cl {i : Int32} {n : Nat} (h : vp_in i n) : i.toNatClampNeg < n := Nat.not_le.mp fun q => h (Or.inr q)
theorem q_shr0 (y : Int32) : ((0 : Int64).toUInt64 >>> (y.toInt64.toUInt64 &&& Int64.toUInt64 63)).toInt64 = 0 := by
  have h : ∀ z : UInt64, (0 : UInt64) >>> z = 0 := fun z => by
    apply UInt64.toBitVec_inj.mp
    simp
  rw [show (0 : Int64).toUInt64 = 0 from rfl, h]
  rfl
theorem q_and0 (x : Int64) : (0 : Int64) &&& x = 0 := Int64.toBitVec_inj.mp (by simp)
theorem q_genH {p : Program} {l : Launch} {e : Env} {R : Room} {s : State} {m : MethodId} {args : Array Value} {below : List Frame} {meth : Method} {c : Code} {H : Heap} {locs : List Loc} {cells slots : Nat} {Q : State → Prop} {g : JFrame} {P : Heap → List Loc → Prop} (h : P H locs) (kk : ∀ (H : Heap) (locs : List Loc), P H locs → W p l e R s m args below meth c H locs cells slots Q g) : W p l e R s m args below meth c H locs cells slots Q g := kk H locs h
def q_in (bw bh : Nat) (x y : Int32) : Prop := ¬ x < 0 ∧ ¬ nI bw ≤ x ∧ ¬ y < 0 ∧ ¬ nI bh ≤ y
def q_way (x : Int32) : Prop := ¬ x < 0 ∧ ¬ (4 : Int32) ≤ x
theorem q_lo {x : Int32} {b : Nat} (hb : b ≤ 8) (h0 : ¬ x < 0) (h1 : ¬ nI b ≤ x) : ∃ k : Nat, k < b ∧ x = nI k := by
  obtain ⟨k, hk, rfl⟩ := nI_of h0
  refine ⟨k, ?_, rfl⟩
  have := mt (nI_leI (a := b) (b := k) (by omega) hk).mpr h1
  omega
theorem q_num {bw bh : Nat} (hbw : bw ≤ 8) (hbh : bh ≤ 8) {x y : Int32} (h : q_in bw bh x y) : ∃ n : Nat, n < 64 ∧ (8 * y) + x = nI n := by
  obtain ⟨h1, h2, h3, h4⟩ := h
  obtain ⟨i, hi, rfl⟩ := q_lo hbw h1 h2
  obtain ⟨j, hj, rfl⟩ := q_lo hbh h3 h4
  refine ⟨8 * j + i, by omega, ?_⟩
  rw [show (8 : Int32) * nI j = nI (8 * j) from pk_mul 8 j, nI_add]
theorem q_numE {bw bh : Nat} (hbw : bw ≤ 8) (hbh : bh ≤ 8) {x y : Int32} (h : q_in bw bh x y) : ∃ n : Nat, n < 64 ∧ ((8 * y) + x) = nI n := q_num hbw hbh h
theorem q_row {y : Int32} {b : Nat} (hb : b ≤ 8) (h0 : ¬ y < 0) (h1 : y < nI b) : ∃ k : Nat, k < b ∧ y = nI k := q_lo hb h0 (fun h => Int32.lt_irrefl (Int32.lt_of_lt_of_le h1 h))
theorem q_inN {bw bh i k : Nat} (hbw : bw ≤ 8) (hbh : bh ≤ 8) (hi : i < bw) (hk : k < bh) : q_in bw bh (nI i) (nI k) := ⟨nI_pos (by omega), nI_ge hi (by omega), nI_pos (by omega), nI_ge hk (by omega)⟩
def q_rowP (bh : Nat) (y : Int32) : Prop := ¬ y < 0 ∧ y < nI bh
def q_fld (bw bh : Nat) (x y k v : Int32) : Prop := q_in bw bh x y ∧ ¬ k < 0 ∧ k ≤ 5 ∧ (k = 4 → q_way v) ∧ (¬ k = 4 → v = 0)
/-- the answer when something holds, and when not -/
def q_if (P : Prop) (a b r : Int32) : Prop := (P → r = a) ∧ (¬ P → r = b)
theorem q_ift {P : Prop} {a b : Int32} (h : P) : q_if P a b a := ⟨fun _ => rfl, fun n => absurd h n⟩
theorem q_iff {P : Prop} {a b : Int32} (h : ¬ P) : q_if P a b b := ⟨fun n => absurd n h, fun _ => rfl⟩
theorem q_ifU {P : Prop} {a b r t : Int32} (h : q_if P a b r) (h2 : q_if P a b t) : r = t := by
  by_cases hp : P
  · rw [h.1 hp, h2.1 hp]
  · rw [h.2 hp, h2.2 hp]
/-- what count() answers of a fresh cellar -/
def q_cnt (x r : Int32) : Prop := (x = 8 ∧ r = -1) ∨ ((x = 0 ∨ x = 1 ∨ x = 2 ∨ x = 3 ∨ x = 4 ∨ x = 5 ∨ x = 6 ∨ x = 7) ∧ r = 0) ∨ ((x.toInt < 0 ∨ 8 < x.toInt) ∧ r = -2)
theorem q_cntU {x r t : Int32} (h : q_cnt x r) (h2 : q_cnt x t) : r = t := by
  have e8 : (8 : Int32).toInt = 8 := rfl
  rcases h with ⟨rfl, rfl⟩ | ⟨hx, rfl⟩ | ⟨hx, rfl⟩
  · rcases h2 with ⟨-, rfl⟩ | ⟨h2, rfl⟩ | ⟨h2, rfl⟩
    · rfl
    · exact absurd h2 (by decide)
    · exact absurd h2 (by decide)
  · rcases h2 with ⟨rfl, rfl⟩ | ⟨h2, rfl⟩ | ⟨h2, rfl⟩
    · exact absurd hx (by decide)
    · rfl
    · rcases hx with rfl | rfl | rfl | rfl | rfl | rfl | rfl | rfl <;> exact absurd h2 (by decide)
  · rcases h2 with ⟨rfl, rfl⟩ | ⟨h2, rfl⟩ | ⟨h2, rfl⟩
    · exact absurd hx (by decide)
    · rcases h2 with rfl | rfl | rfl | rfl | rfl | rfl | rfl | rfl <;> exact absurd hx (by decide)
    · rfl
theorem q_sw (x : Int32) : x = 0 ∨ x = 1 ∨ x = 2 ∨ x = 3 ∨ x = 4 ∨ x = 5 ∨ x = 6 ∨ x = 7 ∨ x = 8 ∨ (x.toInt < 0 ∨ 8 < x.toInt) := by
  by_cases h : x.toInt < 0 ∨ 8 < x.toInt
  · simp [h]
  · have h3 : 0 ≤ x.toInt ∧ x.toInt ≤ 8 := by omega
    obtain ⟨h1, h2⟩ := h3
    have e : x = Int32.ofInt x.toInt := (Int32.ofInt_toInt x).symm
    rcases (show x.toInt = 0 ∨ x.toInt = 1 ∨ x.toInt = 2 ∨ x.toInt = 3 ∨ x.toInt = 4 ∨ x.toInt = 5 ∨ x.toInt = 6 ∨ x.toInt = 7 ∨ x.toInt = 8 by omega) with h | h | h | h | h | h | h | h | h <;> rw [h] at e <;> rw [e] <;> decide
/-- a side of the cellar -/
def q_side (x : Int32) : Nat := if x < 2 then 2 else if 8 < x then 8 else x.toNatClampNeg
theorem q_side_le (x : Int32) : q_side x ≤ 8 := by
  unfold q_side
  split
  · omega
  · split
    · omega
    · rename_i h1 h2
      have h3 := Int32.not_lt.mp h1
      have h4 := Int32.not_lt.mp h2
      rw [Int32.le_iff_toInt_le] at h3 h4
      have e2 : (2 : Int32).toInt = 2 := rfl
      have e8 : (8 : Int32).toInt = 8 := rfl
      rw [e2] at h3
      rw [e8] at h4
      unfold Int32.toNatClampNeg
      omega
theorem q_sA {x : Int32} (h : ¬ (2 : Int32) ≤ x) : (2 : Int32) = nI (q_side x) := by
  unfold q_side
  rw [if_pos (Int32.not_le.mp h)]
  rfl
theorem q_sB {x : Int32} (h1 : (2 : Int32) ≤ x) (h2 : x ≤ 8) : x = nI (q_side x) := by
  unfold q_side
  rw [if_neg (Int32.not_lt.mpr h1), if_neg (Int32.not_lt.mpr h2)]
  have h0 : ¬ x < 0 := fun h => Int32.lt_irrefl (Int32.lt_of_lt_of_le h (Int32.le_trans (by decide : (0 : Int32) ≤ 2) h1))
  obtain ⟨k, hk, rfl⟩ := nI_of h0
  rw [nI_clamp hk]
theorem q_sC {x : Int32} (h1 : (2 : Int32) ≤ x) (h2 : ¬ x ≤ 8) : (8 : Int32) = nI (q_side x) := by
  unfold q_side
  rw [if_neg (Int32.not_lt.mpr h1), if_pos (Int32.not_le.mp h2)]
  rfl
theorem q_sideX (x : Int32) : (if 2 < (if x < 8 then x else 8) then (if x < 8 then x else 8) else 2) = nI (q_side x) := by
  by_cases h8 : x < 8
  · rw [if_pos h8]
    by_cases h2 : 2 < x
    · rw [if_pos h2]
      exact q_sB (Int32.le_of_lt h2) (Int32.le_of_lt h8)
    · rw [if_neg h2]
      by_cases h3 : (2 : Int32) ≤ x
      · have h4 : x = 2 := Int32.le_antisymm (Int32.not_lt.mp h2) h3
        rw [h4]
        exact q_sB (by decide) (by decide)
      · exact q_sA h3
  · rw [if_neg h8, if_pos (by decide)]
    have h3 := Int32.not_lt.mp h8
    by_cases h4 : x ≤ 8
    · have h5 : x = 8 := Int32.le_antisymm h4 h3
      rw [h5]
      exact q_sB (by decide) (by decide)
    · exact q_sC (Int32.le_trans (by decide : (2 : Int32) ≤ 8) h3) h4
