/-! Sums, products and powers that fit. -/
def zfit (z : Int) : Prop := -9223372036854775808 ≤ z ∧ z < 9223372036854775808
def zoa (a b : Int64) : Option Int64 := if -9223372036854775808 ≤ a.toInt + b.toInt ∧ a.toInt + b.toInt < 9223372036854775808 then some (a + b) else none
def zos (a b : Int64) : Option Int64 := if -9223372036854775808 ≤ a.toInt - b.toInt ∧ a.toInt - b.toInt < 9223372036854775808 then some (a - b) else none
def zom (a b : Int64) : Option Int64 := if -9223372036854775808 ≤ a.toInt * b.toInt ∧ a.toInt * b.toInt < 9223372036854775808 then some (a * b) else none
/-- an operation's answer: status kept and value, or overflow -/
def zrel (s : Int32) (o : Option Int64) (r : Int64 × Int32) : Prop := (s = 0 ∧ o = some r.1 ∧ r.2 = 0) ∨ (s = 0 ∧ o = none ∧ r.2 = 1) ∨ (s = 1 ∧ r.2 = 1)
theorem zI64 (x : Int64) : -9223372036854775808 ≤ x.toInt ∧ x.toInt < 9223372036854775808 := by
  have h1 := Int64.le_toInt x
  have h2 := Int64.toInt_lt x
  omega
theorem zadd_toInt (a b : Int64) : (a + b).toInt = (a.toInt + b.toInt).bmod 18446744073709551616 := Int64.toInt_add a b
theorem zsub_toInt (a b : Int64) : (a - b).toInt = (a.toInt - b.toInt).bmod 18446744073709551616 := Int64.toInt_sub a b
theorem zmul_toInt (a b : Int64) : (a * b).toInt = (a.toInt * b.toInt).bmod 18446744073709551616 := Int64.toInt_mul a b
theorem zneg_iff (x : Int64) : x < 0 ↔ x.toBitVec.msb = true := by
  rw [Int64.lt_iff_toInt_lt, BitVec.msb_eq_toInt, Int64.toInt_toBitVec, decide_eq_true_iff]
  exact Iff.rfl
theorem zxor_neg (x y : Int64) : (x ^^^ y) < 0 ↔ ¬ ((x < 0) ↔ (y < 0)) := by
  simp only [zneg_iff, Int64.toBitVec_xor, BitVec.msb_xor]
  cases x.toBitVec.msb <;> cases y.toBitVec.msb <;> simp
theorem zand_neg (x y : Int64) : (x &&& y) < 0 ↔ (x < 0 ∧ y < 0) := by
  simp only [zneg_iff, Int64.toBitVec_and, BitVec.msb_and]
  cases x.toBitVec.msb <;> cases y.toBitVec.msb <;> simp
theorem zlt0 (x : Int64) : x < 0 ↔ x.toInt < 0 := by rw [Int64.lt_iff_toInt_lt]; exact Iff.rfl
theorem zbm (z : Int) (h1 : -18446744073709551616 ≤ z) (h2 : z < 18446744073709551616) : (-9223372036854775808 ≤ z ∧ z < 9223372036854775808 ∧ z.bmod 18446744073709551616 = z) ∨ (9223372036854775808 ≤ z ∧ z.bmod 18446744073709551616 = z - 18446744073709551616) ∨ (z < -9223372036854775808 ∧ z.bmod 18446744073709551616 = z + 18446744073709551616) := by
  simp only [Int.bmod]
  split <;> omega
theorem za_sign (a b : Int64) : ((a ^^^ (a + b)) &&& (b ^^^ (a + b))) < 0 ↔ ¬ (-9223372036854775808 ≤ a.toInt + b.toInt ∧ a.toInt + b.toInt < 9223372036854775808) := by
  rw [zand_neg, zxor_neg, zxor_neg, zlt0, zlt0, zlt0, zadd_toInt]
  have ha := zI64 a; have hb := zI64 b
  rcases zbm (a.toInt + b.toInt) (by omega) (by omega) with ⟨h1, h2, h3⟩ | ⟨h1, h3⟩ | ⟨h1, h3⟩ <;> rw [h3] <;> omega
theorem zs_sign (a b : Int64) : ((a ^^^ b) &&& (a ^^^ (a - b))) < 0 ↔ ¬ (-9223372036854775808 ≤ a.toInt - b.toInt ∧ a.toInt - b.toInt < 9223372036854775808) := by
  rw [zand_neg, zxor_neg, zxor_neg, zlt0, zlt0, zlt0, zsub_toInt]
  have ha := zI64 a; have hb := zI64 b
  rcases zbm (a.toInt - b.toInt) (by omega) (by omega) with ⟨h1, h2, h3⟩ | ⟨h1, h3⟩ | ⟨h1, h3⟩ <;> rw [h3] <;> omega
theorem zge0 (x : Int64) : (0 ≤ lg_cmp x 0) ↔ ¬ x < 0 := by
  rw [lg_cmp_ge, Int64.lt_iff_toInt_lt, Int64.le_iff_toInt_le]; omega
theorem c_add (s : Int32) (a b : Int64) (hs : s = 0 ∨ s = 1) : zrel s (zoa a b) (fn_Eval_add s a b) := by
  unfold fn_Eval_add zoa
  simp only [zge0, za_sign, Decidable.not_not]
  by_cases h : -9223372036854775808 ≤ a.toInt + b.toInt ∧ a.toInt + b.toInt < 9223372036854775808
  · simp only [if_pos h]
    rcases hs with rfl | rfl
    · exact Or.inl ⟨rfl, rfl, rfl⟩
    · exact Or.inr (Or.inr ⟨rfl, rfl⟩)
  · simp only [if_neg h]
    rcases hs with rfl | rfl
    · exact Or.inr (Or.inl ⟨rfl, rfl, rfl⟩)
    · exact Or.inr (Or.inr ⟨rfl, rfl⟩)
theorem c_sub (s : Int32) (a b : Int64) (hs : s = 0 ∨ s = 1) : zrel s (zos a b) (fn_Eval_subtract s a b) := by
  unfold fn_Eval_subtract zos
  simp only [zge0, zs_sign, Decidable.not_not]
  by_cases h : -9223372036854775808 ≤ a.toInt - b.toInt ∧ a.toInt - b.toInt < 9223372036854775808
  · simp only [if_pos h]
    rcases hs with rfl | rfl
    · exact Or.inl ⟨rfl, rfl, rfl⟩
    · exact Or.inr (Or.inr ⟨rfl, rfl⟩)
  · simp only [if_neg h]
    rcases hs with rfl | rfl
    · exact Or.inr (Or.inl ⟨rfl, rfl, rfl⟩)
    · exact Or.inr (Or.inr ⟨rfl, rfl⟩)
theorem r_fails (s : Int32) (hs : s = 0 ∨ s = 1) : fn_Ref_fails s 1 = (0, 1) := by
  unfold fn_Ref_fails
  rcases hs with rfl | rfl <;> rfl
theorem r_rel {s : Int32} {o : Option Int64} {v : Int64} (hs : s = 0 ∨ s = 1) (ho : o = some v) : zrel s o (v, s) := by
  rcases hs with rfl | rfl
  · exact Or.inl ⟨rfl, ho, rfl⟩
  · exact Or.inr (Or.inr ⟨rfl, rfl⟩)
theorem r_reln {s : Int32} {o : Option Int64} {v : Int64} (hs : s = 0 ∨ s = 1) (ho : o = none) : zrel s o (v, 1) := by
  rcases hs with rfl | rfl
  · exact Or.inr (Or.inl ⟨rfl, ho, rfl⟩)
  · exact Or.inr (Or.inr ⟨rfl, rfl⟩)
theorem r_plus (s : Int32) (a b : Int64) (hs : s = 0 ∨ s = 1) : zrel s (zoa a b) (fn_Ref_plus s a b) := by
  unfold fn_Ref_plus fn_Ref_plus_b16 fn_Ref_plus_b27 fn_Ref_plus_b42 fn_Ref_plus_b53
  simp only [lg_cmp_lt, zlt0, r_fails s hs]
  have hc := zadd_toInt a b
  have ha := zI64 a; have hb := zI64 b
  have h01 : ¬ (0 : Int32) = 1 := by decide
  have h10 : ¬ (1 : Int32) = 0 := by decide
  unfold zoa
  rcases zbm (a.toInt + b.toInt) (by omega) (by omega) with ⟨h1, h2, h3⟩ | ⟨h1, h3⟩ | ⟨h1, h3⟩ <;> rw [h3] at hc
  · rw [if_pos ⟨h1, h2⟩]
    by_cases c1 : a.toInt < 0 <;> by_cases c2 : b.toInt < 0 <;> by_cases c3 : (a + b).toInt < 0 <;> simp only [c1, c2, c3, if_true, if_false, h01, h10] <;> first | exact r_rel hs rfl | (exfalso; omega)
  · rw [if_neg (by omega)]
    by_cases c1 : a.toInt < 0 <;> by_cases c2 : b.toInt < 0 <;> by_cases c3 : (a + b).toInt < 0 <;> simp only [c1, c2, c3, if_true, if_false, h01, h10] <;> first | exact r_reln hs rfl | (exfalso; omega)
  · rw [if_neg (by omega)]
    by_cases c1 : a.toInt < 0 <;> by_cases c2 : b.toInt < 0 <;> by_cases c3 : (a + b).toInt < 0 <;> simp only [c1, c2, c3, if_true, if_false, h01, h10] <;> first | exact r_reln hs rfl | (exfalso; omega)
theorem r_minus (s : Int32) (a b : Int64) (hs : s = 0 ∨ s = 1) : zrel s (zos a b) (fn_Ref_minus s a b) := by
  unfold fn_Ref_minus fn_Ref_minus_b16 fn_Ref_minus_b27 fn_Ref_minus_b42 fn_Ref_minus_b53
  simp only [lg_cmp_lt, zlt0, r_fails s hs]
  have hc := zsub_toInt a b
  have ha := zI64 a; have hb := zI64 b
  have h01 : ¬ (0 : Int32) = 1 := by decide
  have h10 : ¬ (1 : Int32) = 0 := by decide
  unfold zos
  rcases zbm (a.toInt - b.toInt) (by omega) (by omega) with ⟨h1, h2, h3⟩ | ⟨h1, h3⟩ | ⟨h1, h3⟩ <;> rw [h3] at hc
  · rw [if_pos ⟨h1, h2⟩]
    by_cases c1 : a.toInt < 0 <;> by_cases c2 : b.toInt < 0 <;> by_cases c3 : (a - b).toInt < 0 <;> simp only [c1, c2, c3, if_true, if_false, h01, h10] <;> first | exact r_rel hs rfl | (exfalso; omega)
  · rw [if_neg (by omega)]
    by_cases c1 : a.toInt < 0 <;> by_cases c2 : b.toInt < 0 <;> by_cases c3 : (a - b).toInt < 0 <;> simp only [c1, c2, c3, if_true, if_false, h01, h10] <;> first | exact r_reln hs rfl | (exfalso; omega)
  · rw [if_neg (by omega)]
    by_cases c1 : a.toInt < 0 <;> by_cases c2 : b.toInt < 0 <;> by_cases c3 : (a - b).toInt < 0 <;> simp only [c1, c2, c3, if_true, if_false, h01, h10] <;> first | exact r_reln hs rfl | (exfalso; omega)
/-! products -/
theorem ztdiv (m b : Int) (hb : b ≠ 0) (q : Int) (h : m.tdiv b = q) : (m - q * b).natAbs < b.natAbs := by
  have h1 := Int.mul_tdiv_add_tmod m b
  have h2 := Int.natAbs_tmod m b
  have h3 : m - q * b = m.tmod b := by rw [← h, Int.mul_comm]; omega
  rw [h3, h2]
  exact Nat.mod_lt _ (Int.natAbs_pos.mpr hb)
theorem zmulfit (a b : Int64) (ha : a ≠ 0) (h1 : ¬ (a = -1 ∧ b.toInt = -9223372036854775808)) : (a * b) / a = b ↔ (-9223372036854775808 ≤ a.toInt * b.toInt ∧ a.toInt * b.toInt < 9223372036854775808) := by
  have hA := zI64 a; have hB := zI64 b; have hP := zI64 (a * b)
  have ha0 : a.toInt ≠ 0 := fun e => ha (Int64.toInt_inj.mp e)
  have hm := zmul_toInt a b
  rw [← Int64.toInt_inj, Int64.toInt_div]
  constructor
  · intro h
    have hd : ((a * b).toInt.tdiv a.toInt) = b.toInt := by
      rcases Decidable.em (a.toInt = -1) with hm1 | hm1
      · -- quotient by -1
        rw [hm1] at h ⊢
        rcases Decidable.em ((a * b).toInt = -9223372036854775808) with h2 | h2
        · exfalso
          rw [h2] at h
          have : Int.bmod (Int.tdiv (-9223372036854775808) (-1)) (2 ^ 64) = -9223372036854775808 := by decide
          rw [this] at h
          exact h1 ⟨Int64.toInt_inj.mp hm1, h.symm⟩
        · rw [Int.tdiv_neg, Int.tdiv_one] at h ⊢
          rw [← h]
          rcases zbm (-(a * b).toInt) (by omega) (by omega) with ⟨_, _, h3⟩ | ⟨h3, _⟩ | ⟨h3, _⟩
          · exact h3.symm
          · omega
          · omega
      · have hb1 : ((a * b).toInt.tdiv a.toInt).natAbs ≤ (a * b).toInt.natAbs := by
          rw [Int.natAbs_tdiv]; exact Nat.div_le_self _ _
        have hb2 : (a * b).toInt.tdiv a.toInt ≠ 9223372036854775808 := by
          intro e
          have e2 := congrArg Int.natAbs e
          rw [Int.natAbs_tdiv] at e2
          have e3 : (a * b).toInt.natAbs / a.toInt.natAbs = 9223372036854775808 := e2
          have h6 : 2 ≤ a.toInt.natAbs ∨ a.toInt = 1 := by omega
          rcases h6 with h6 | h6
          · have := Nat.div_le_div_left (a := (a * b).toInt.natAbs) h6 (by omega)
            omega
          · rw [h6, Int.tdiv_one] at e; omega
        rw [← h]
        rcases zbm ((a * b).toInt.tdiv a.toInt) (by omega) (by omega) with ⟨_, _, h3⟩ | ⟨h3, _⟩ | ⟨h3, _⟩
        · exact h3.symm
        · omega
        · omega
    have hr := ztdiv _ _ ha0 _ hd
    rw [hm] at hr hP
    have hbm := Int.bmod_add_bdiv (a.toInt * b.toInt) 18446744073709551616
    rw [Int.mul_comm b.toInt] at hr
    generalize a.toInt * b.toInt = P at *
    generalize P.bdiv 18446744073709551616 = k at *
    omega
  · intro h
    have e : (a * b).toInt = a.toInt * b.toInt := by
      rw [hm]
      rcases zbm (a.toInt * b.toInt) (by omega) (by omega) with ⟨_, _, h3⟩ | ⟨h3, _⟩ | ⟨h3, _⟩
      · exact h3
      · omega
      · omega
    rw [e, Int.mul_tdiv_cancel_left _ ha0]
    rcases zbm b.toInt (by omega) (by omega) with ⟨_, _, h3⟩ | ⟨h3, _⟩ | ⟨h3, _⟩
    · exact h3
    · omega
    · omega
theorem zmin_toInt : (-9223372036854775808 : Int64).toInt = -9223372036854775808 := by decide
theorem zm1_toInt : (-1 : Int64).toInt = -1 := by decide
theorem zis_min (b : Int64) : b = -9223372036854775808 ↔ b.toInt = -9223372036854775808 := by rw [← Int64.toInt_inj, zmin_toInt]
theorem zis_0 (b : Int64) : b = 0 ↔ b.toInt = 0 := by rw [← Int64.toInt_inj]; exact Iff.rfl
theorem zis_m1 (b : Int64) : b = -1 ↔ b.toInt = -1 := by rw [← Int64.toInt_inj, zm1_toInt]
theorem c_mul (s : Int32) (a b : Int64) (hs : s = 0 ∨ s = 1) : zwp (fn_Eval_multiply s a b) (zrel s (zom a b)) := by
  unfold fn_Eval_multiply fn_Eval_multiply_b39 fn_Eval_multiply_b43 fn_Eval_multiply_b44
  simp only [lg_cmp_eq]
  have hB := zI64 b
  have h10 : ¬ (1 : Int32) = 0 := by decide
  have hok : (-9223372036854775808 ≤ a.toInt * b.toInt ∧ a.toInt * b.toInt < 9223372036854775808) → zwp (if (1 : Int32) = 0 then some (a * b, 1) else some (a * b, s)) (zrel s (zom a b)) := fun h => zwp_f h10 (zwp_some (r_rel hs (by unfold zom; rw [if_pos h])))
  have hno : ¬ (-9223372036854775808 ≤ a.toInt * b.toInt ∧ a.toInt * b.toInt < 9223372036854775808) → zwp (if (0 : Int32) = 0 then some (a * b, 1) else some (a * b, s)) (zrel s (zom a b)) := fun h => zwp_t rfl (zwp_some (r_reln hs (by unfold zom; rw [if_neg h])))
  by_cases h0 : a = 0
  · rw [if_pos h0]; apply hok; rw [(zis_0 a).mp h0]; omega
  · rw [if_neg h0]
    by_cases h1 : a = -1
    · rw [if_pos h1]
      have e := (zis_m1 a).mp h1
      by_cases h2 : b = -9223372036854775808
      · rw [if_pos h2]; apply hno; rw [e, (zis_min b).mp h2]; omega
      · rw [if_neg h2]; apply hok
        have h9 : b.toInt ≠ -9223372036854775808 := fun h => h2 ((zis_min b).mpr h)
        have e2 : a.toInt * b.toInt = -b.toInt := by rw [e]; omega
        rw [e2]; omega
    · rw [if_neg h1]
      refine zwp_f h0 ?_
      have := zmulfit a b h0 (fun h => h1 h.1)
      by_cases h3 : (a * b) / a = b
      · rw [if_pos h3]; exact hok (this.mp h3)
      · rw [if_neg h3]; exact hno (fun h => h3 (this.mpr h))
theorem r_mul (s : Int32) (a b : Int64) (hs : s = 0 ∨ s = 1) : zwp (fn_Ref_times s a b) (zrel s (zom a b)) := by
  unfold fn_Ref_times fn_Ref_times_b35 fn_Ref_times_b51 fn_Ref_times_b60 fn_Ref_times_b65
  simp only [lg_cmp_eq, r_fails s hs]
  have hA := zI64 a; have hB := zI64 b
  have h10 : ¬ (1 : Int32) = 0 := by decide
  have hok : (-9223372036854775808 ≤ a.toInt * b.toInt ∧ a.toInt * b.toInt < 9223372036854775808) → zwp (if (0 : Int32) = 0 then some (a * b, s) else some ((0 : Int64), (1 : Int32))) (zrel s (zom a b)) := fun h => zwp_t rfl (zwp_some (r_rel hs (by unfold zom; rw [if_pos h])))
  have hno : ¬ (-9223372036854775808 ≤ a.toInt * b.toInt ∧ a.toInt * b.toInt < 9223372036854775808) → zwp (if (1 : Int32) = 0 then some (a * b, s) else some ((0 : Int64), (1 : Int32))) (zrel s (zom a b)) := fun h => zwp_f h10 (zwp_some (r_reln hs (by unfold zom; rw [if_neg h])))
  have hz : a.toInt * b.toInt = 0 → zwp (some ((0 : Int64), s)) (zrel s (zom a b)) := fun h => zwp_some (r_rel hs (by
    unfold zom; rw [if_pos (by omega)]
    congr 1
    rw [← Int64.toInt_inj, zmul_toInt, h]; rfl))
  by_cases h0 : a = 0
  · rw [if_pos h0]; exact hz (by rw [(zis_0 a).mp h0]; omega)
  rw [if_neg h0]
  by_cases hb0 : b = 0
  · rw [if_pos hb0]; exact hz (by rw [(zis_0 b).mp hb0]; omega)
  rw [if_neg hb0]
  have h51 : ¬ (b = -1 ∧ a.toInt = -9223372036854775808) → zwp (if b = 0 then none else if a * b / b = a then (if (0 : Int32) = 0 then some (a * b, s) else some ((0 : Int64), (1 : Int32))) else (if (1 : Int32) = 0 then some (a * b, s) else some ((0 : Int64), (1 : Int32)))) (zrel s (zom a b)) := by
    intro h
    refine zwp_f hb0 ?_
    have := zmulfit b a hb0 h
    rw [Int64.mul_comm b a, Int.mul_comm b.toInt] at this
    by_cases h3 : a * b / b = a
    · rw [if_pos h3]; exact hok (this.mp h3)
    · rw [if_neg h3]; exact hno (fun h => h3 (this.mpr h))
  have h35 : ¬ (a = -1 ∧ b = -9223372036854775808) → zwp (if b = -1 then (if a = -9223372036854775808 then (if (1 : Int32) = 0 then some (a * b, s) else some ((0 : Int64), (1 : Int32))) else (if b = 0 then none else if a * b / b = a then (if (0 : Int32) = 0 then some (a * b, s) else some ((0 : Int64), (1 : Int32))) else (if (1 : Int32) = 0 then some (a * b, s) else some ((0 : Int64), (1 : Int32))))) else (if b = 0 then none else if a * b / b = a then (if (0 : Int32) = 0 then some (a * b, s) else some ((0 : Int64), (1 : Int32))) else (if (1 : Int32) = 0 then some (a * b, s) else some ((0 : Int64), (1 : Int32))))) (zrel s (zom a b)) := by
    intro h
    by_cases hb1 : b = -1
    · rw [if_pos hb1]
      by_cases ha1 : a = -9223372036854775808
      · rw [if_pos ha1]; apply hno; rw [(zis_m1 b).mp hb1, (zis_min a).mp ha1]; omega
      · rw [if_neg ha1]; exact h51 (fun h => ha1 ((zis_min a).mpr h.2))
    · rw [if_neg hb1]; exact h51 (fun h => hb1 h.1)
  by_cases h1 : a = -1
  · rw [if_pos h1]
    by_cases h2 : b = -9223372036854775808
    · rw [if_pos h2]; apply hno; rw [(zis_m1 a).mp h1, (zis_min b).mp h2]; omega
    · rw [if_neg h2]; exact h35 (fun h => h2 h.2)
  · rw [if_neg h1]; exact h35 (fun h => h1 h.1)
/-- both answer alike: the status, and the value where nothing failed -/
def zsame (r r' : Int64 × Int32) : Prop := r.2 = r'.2 ∧ (r.2 = 0 → r.1 = r'.1)
theorem zrel_same {o : Option Int64} {r r' : Int64 × Int32} (h : zrel 0 o r) (h' : zrel 0 o r') : zsame r r' := by
  rcases h with ⟨-, h1, h2⟩ | ⟨-, h1, h2⟩ | ⟨h, -⟩
  · rcases h' with ⟨-, h3, h4⟩ | ⟨-, h3, h4⟩ | ⟨h, -⟩
    · exact ⟨h2.trans h4.symm, fun _ => by rw [h1] at h3; exact Option.some.inj h3⟩
    · rw [h1] at h3; cases h3
    · exact absurd h (by decide)
  · rcases h' with ⟨-, h3, h4⟩ | ⟨-, h3, h4⟩ | ⟨h, -⟩
    · rw [h1] at h3; cases h3
    · exact ⟨h2.trans h4.symm, fun h => by rw [h2] at h; exact absurd h (by decide)⟩
    · exact absurd h (by decide)
  · exact absurd h (by decide)
/-- two runs end alike -/
def zw2 {α β : Type} (x : Option α) (y : Option β) (R : α → β → Prop) : Prop := ∃ a b, x = some a ∧ y = some b ∧ R a b
theorem zw2_i {α β : Type} {x : Option α} {y : Option β} {P : α → Prop} {Q : β → Prop} {R : α → β → Prop} (hx : zwp x P) (hy : zwp y Q) (h : ∀ a b, P a → Q b → R a b) : zw2 x y R := by
  obtain ⟨a, e, ha⟩ := hx
  obtain ⟨b, e', hb⟩ := hy
  exact ⟨a, b, e, e', h a b ha hb⟩
theorem zw2_some {α β : Type} {a : α} {b : β} {R : α → β → Prop} (h : R a b) : zw2 (some a) (some b) R := ⟨a, b, rfl, rfl, h⟩
theorem zw2_seq {α β α' β' : Type} {x : Option α} {y : Option β} {f : α → Option α'} {g : β → Option β'} {R : α → β → Prop} {R' : α' → β' → Prop} (h : zw2 x y R) (h' : ∀ a b, R a b → zw2 (f a) (g b) R') : zw2 (x.bind f) (y.bind g) R' := by
  obtain ⟨a, b, rfl, rfl, h⟩ := h
  exact h' a b h
theorem zw2_mono {α β : Type} {x : Option α} {y : Option β} {R R' : α → β → Prop} (h : zw2 x y R) (h' : ∀ a b, R a b → R' a b) : zw2 x y R' := by
  obtain ⟨a, b, e, e', h⟩ := h
  exact ⟨a, b, e, e', h' a b h⟩
theorem zrel_w2 {o : Option Int64} {x y : Option (Int64 × Int32)} (hx : zwp x (zrel 0 o)) (hy : zwp y (zrel 0 o)) : zw2 x y zsame := zw2_i hx hy fun _ _ => zrel_same
theorem t_mul (a b : Int64) : zw2 (fn_Eval_multiply 0 a b) (fn_Ref_times 0 a b) zsame := zrel_w2 (c_mul 0 a b (Or.inl rfl)) (r_mul 0 a b (Or.inl rfl))
theorem t_add (a b : Int64) : zsame (fn_Eval_add 0 a b) (fn_Ref_plus 0 a b) := zrel_same (c_add 0 a b (Or.inl rfl)) (r_plus 0 a b (Or.inl rfl))
theorem t_sub (a b : Int64) : zsame (fn_Eval_subtract 0 a b) (fn_Ref_minus 0 a b) := zrel_same (c_sub 0 a b (Or.inl rfl)) (r_minus 0 a b (Or.inl rfl))
theorem t_div (a b : Int64) : zw2 (fn_Eval_divide 0 a b) (fn_Ref_over 0 a b) zsame := by
  unfold fn_Eval_divide fn_Ref_over fn_Ref_fails
  simp only [lg_cmp_eq]
  by_cases h0 : b = 0
  · simp only [if_pos h0]; exact zw2_some ⟨rfl, fun h => rfl⟩
  simp only [if_neg h0]
  by_cases h1 : a = -9223372036854775808
  · simp only [if_pos h1]
    by_cases h2 : b = -1
    · simp only [if_pos h2]; exact zw2_some ⟨rfl, fun h => rfl⟩
    · simp only [if_neg h2]; exact zw2_some ⟨rfl, fun _ => rfl⟩
  · simp only [if_neg h1]; exact zw2_some ⟨rfl, fun _ => rfl⟩
theorem zlN1 (k : Nat) : lN k + 1 = lN (k + 1) := (Int64.ofNat_add k 1).symm
theorem t_powl (a b M : Int64) (ha : 2 ≤ a.toInt.natAbs) (hM : M.toInt = if 64 < b.toInt then 64 else b.toInt) : ∀ (n k : Nat) (v : Int64), k ≤ 64 → 64 - k < n → 2 ^ k ≤ v.toInt.natAbs →
    zw2 (fn_Eval_raise_L74 n 0 a v M (lN k)) (fn_Ref_power_L68 n 0 a b v (lN k)) zsame
  | 0, _, _, _, h, _ => absurd h (Nat.not_lt_zero _)
  | n + 1, k, v, hk, hn, hv => by
    have hkI : (lN k).toInt = (k : Int) := lN_toInt (by omega)
    unfold fn_Eval_raise_L74 fn_Ref_power_L68 fn_Ref_power_b100
    simp only [lg_cmp_ge, Int64.le_iff_toInt_le, hkI, hM]
    have hV := zI64 v
    have h64 : k = 64 → False := by
      intro e; subst e
      have : (2 : Nat) ^ 64 = 18446744073709551616 := by decide
      omega
    have hkl : k < 64 := by
      rcases Nat.lt_or_ge k 64 with h | h
      · exact h
      · exact (h64 (by omega)).elim
    by_cases hb : b.toInt ≤ (k : Int)
    · rw [if_pos (by split <;> omega), if_pos hb]
      exact zw2_some ⟨rfl, fun _ => rfl⟩
    · rw [if_neg (by intro h; split at h <;> first | exact h64 (by omega) | omega), if_neg hb]
      simp only [if_true]
      obtain ⟨r, e1, h1⟩ := c_mul 0 v a (Or.inl rfl)
      obtain ⟨r', e2, h2⟩ := r_mul 0 v a (Or.inl rfl)
      rw [e1, e2, Option.bind_some, Option.bind_some, zlN1]
      have hs := zrel_same h1 h2
      rcases h1 with ⟨-, h3, h4⟩ | ⟨-, h3, h4⟩ | ⟨h, -⟩
      · rw [← hs.1, h4, ← hs.2 h4]
        have hf : -9223372036854775808 ≤ v.toInt * a.toInt ∧ v.toInt * a.toInt < 9223372036854775808 := by
          rcases Decidable.em (-9223372036854775808 ≤ v.toInt * a.toInt ∧ v.toInt * a.toInt < 9223372036854775808) with h | h
          · exact h
          · unfold zom at h3; rw [if_neg h] at h3; cases h3
        unfold zom at h3
        rw [if_pos hf] at h3
        have h3 := Option.some.inj h3
        have hp : r.1.toInt = v.toInt * a.toInt := by
          rw [← h3, zmul_toInt]
          rcases zbm (v.toInt * a.toInt) (by omega) (by omega) with ⟨_, _, h3⟩ | ⟨h3, _⟩ | ⟨h3, _⟩
          · exact h3
          · omega
          · omega
        refine t_powl a b M ha hM n (k + 1) r.1 (by omega) (by omega) ?_
        rw [hp, Int.natAbs_mul, Nat.pow_succ]
        exact Nat.mul_le_mul hv ha
      · rw [← hs.1, h4]
        cases n with
        | zero => omega
        | succ n =>
          unfold fn_Eval_raise_L74 fn_Ref_power_L68 fn_Ref_power_b100
          have h10 : ¬ (1 : Int32) = 0 := by decide
          simp only [if_neg h10, ite_self]
          exact zw2_some ⟨rfl, fun h => absurd h h10⟩
      · exact absurd h (by decide)
theorem zand1 (b : Int64) : (b &&& 1).toBitVec = b.toBitVec &&& 1#64 := rfl
theorem zpar (b : Int64) (hb : 0 ≤ b.toInt) : (b &&& 1 = 0) ↔ (b - b / 2 * 2 = 0) := by
  have hB := zI64 b
  have h2 : (2 : Int64).toInt = 2 := by decide
  have hdv : (b / 2).toInt = b.toInt / 2 := by
    rw [Int64.toInt_div, h2, Int.tdiv_eq_ediv_of_nonneg hb]
    rcases zbm (b.toInt / 2) (by omega) (by omega) with ⟨_, _, h3⟩ | ⟨h3, _⟩ | ⟨h3, _⟩
    · exact h3
    · omega
    · omega
  have hm : (b / 2 * 2).toInt = b.toInt / 2 * 2 := by
    rw [zmul_toInt, hdv, h2]
    rcases zbm (b.toInt / 2 * 2) (by omega) (by omega) with ⟨_, _, h3⟩ | ⟨h3, _⟩ | ⟨h3, _⟩
    · exact h3
    · omega
    · omega
  have hr : (b - b / 2 * 2).toInt = b.toInt % 2 := by
    rw [zsub_toInt, hm]
    rcases zbm (b.toInt - b.toInt / 2 * 2) (by omega) (by omega) with ⟨_, _, h3⟩ | ⟨h3, _⟩ | ⟨h3, _⟩
    · rw [h3]; omega
    · omega
    · omega
  rw [zis_0 (b - b / 2 * 2), hr]
  have hand : (b &&& 1).toInt = b.toInt % 2 := by
    have e1 : (b &&& 1).toInt = (b.toBitVec &&& 1#64).toInt := rfl
    have e2 : b.toInt = (b.toBitVec.toNat : Int) := by
      have h3 : b.toInt = b.toBitVec.toInt := rfl
      have h4 := b.toBitVec.isLt
      rw [h3] at hb ⊢
      rw [BitVec.toInt_eq_toNat_cond] at hb ⊢
      split at hb
      · rename_i h; rw [if_pos h]
      · omega
    have e3 : (b.toBitVec &&& 1#64).toNat = b.toBitVec.toNat % 2 := by
      rw [BitVec.toNat_and]; exact Nat.and_one_is_mod _
    rw [e1, e2, BitVec.toInt_eq_toNat_cond, e3]
    have : b.toBitVec.toNat % 2 < 2 := Nat.mod_lt _ (by omega)
    rw [if_pos (by omega)]
    omega
  rw [zis_0, hand]
theorem t_pow (a b : Int64) : zw2 (fn_Eval_raise 0 a b) (fn_Ref_power 0 a b) zsame := by
  unfold fn_Eval_raise fn_Ref_power fn_Ref_power_b24 fn_Ref_fails
  simp only [lg_cmp_eq, lg_cmp_ge]
  by_cases hb : (0 : Int64) ≤ b
  · simp only [if_pos hb]
    have hbI : 0 ≤ b.toInt := by rw [Int64.le_iff_toInt_le] at hb; exact hb
    by_cases hb0 : b = 0
    · simp only [if_pos hb0]
      by_cases h0 : a = 0
      · simp only [if_pos h0]; exact zw2_some ⟨rfl, fun _ => rfl⟩
      simp only [if_neg h0]
      by_cases h1 : a = 1
      · simp only [if_pos h1]; exact zw2_some ⟨rfl, fun _ => rfl⟩
      simp only [if_neg h1]
      by_cases hm : a = -1
      · simp only [if_pos hm]
        subst hb0
        exact zw2_some ⟨rfl, fun _ => rfl⟩
      · simp only [if_neg hm]
        subst hb0
        show zw2 _ (fn_Ref_power_L68 (99999 + 1) 0 a 0 1 0) zsame
        unfold fn_Ref_power_L68 fn_Ref_power_b100
        exact zw2_some ⟨rfl, fun _ => rfl⟩
    · simp only [if_neg hb0]
      by_cases h1 : a = 1
      · have h0 : ¬ a = 0 := by rw [h1]; decide
        simp only [if_pos h1, if_neg h0]; exact zw2_some ⟨rfl, fun _ => h1.symm⟩
      simp only [if_neg h1]
      by_cases h0 : a = 0
      · simp only [if_pos h0]; exact zw2_some ⟨rfl, fun _ => h0.symm⟩
      simp only [if_neg h0]
      by_cases hm : a = -1
      · simp only [if_pos hm]
        have := zpar b hbI
        by_cases hp : b &&& 1 = 0
        · rw [if_pos hp, if_pos (this.mp hp)]; exact zw2_some ⟨rfl, fun _ => rfl⟩
        · rw [if_neg hp, if_neg (fun h => hp (this.mpr h))]; exact zw2_some ⟨rfl, fun _ => rfl⟩
      · simp only [if_neg hm]
        have ha : 2 ≤ a.toInt.natAbs := by
          have e0 : a.toInt ≠ 0 := fun e => h0 ((zis_0 a).mpr e)
          have em : a.toInt ≠ -1 := fun e => hm ((zis_m1 a).mpr e)
          have e1 : a.toInt ≠ 1 := fun e => h1 (Int64.toInt_inj.mp e)
          omega
        refine t_powl a b _ ha ?_ zFU 0 1 (by omega) (by decide) (by decide)
        have h64 : (64 : Int64) < b ↔ 64 < b.toInt := by rw [Int64.lt_iff_toInt_lt]; exact Iff.rfl
        by_cases h : (64 : Int64) < b
        · rw [if_pos h, if_pos (h64.mp h)]; rfl
        · rw [if_neg h, if_neg (fun h' => h (h64.mpr h'))]
  · simp only [if_neg hb]; exact zw2_some ⟨rfl, fun h => rfl⟩
/-- a function's answer -/
def zf (k : Nat) (y : Int64) : Option Int64 := if k = 3 then (if 0 ≤ y then some y else zos 0 y) else if k = 4 then (if 0 ≤ y then (if y ≤ 0 then some 0 else some 1) else some (-1)) else if k = 5 then zom y y else zoa y y
theorem c_fun (s : Int32) (k : Nat) (y : Int64) (hs : s = 0 ∨ s = 1) (hk : 3 ≤ k ∧ k ≤ 6) : zwp (fn_Eval_apply s (nI k) y) (zrel s (zf k y)) := by
  have e3 : nI k = 3 ↔ k = 3 := nI_inj (b := 3) (by omega) (by omega)
  have e4 : nI k = 4 ↔ k = 4 := nI_inj (b := 4) (by omega) (by omega)
  have e5 : nI k = 5 ↔ k = 5 := nI_inj (b := 5) (by omega) (by omega)
  unfold fn_Eval_apply zf
  simp only [lg_cmp_ge, lg_cmp_le, e3, e4, e5]
  by_cases h3 : k = 3
  · simp only [if_pos h3]
    by_cases h : (0 : Int64) ≤ y
    · simp only [if_pos h]; exact zwp_some (r_rel hs rfl)
    · simp only [if_neg h]; exact zwp_some (c_sub s 0 y hs)
  simp only [if_neg h3]
  by_cases h4 : k = 4
  · simp only [if_pos h4]
    by_cases h : (0 : Int64) ≤ y
    · simp only [if_pos h]
      by_cases h' : y ≤ 0
      · simp only [if_pos h']; exact zwp_some (r_rel hs rfl)
      · simp only [if_neg h']; exact zwp_some (r_rel hs rfl)
    · simp only [if_neg h]; exact zwp_some (r_rel hs rfl)
  simp only [if_neg h4]
  by_cases h5 : k = 5
  · simp only [if_pos h5]; exact zwp_ret (c_mul s y y hs) (fun r hr => hr)
  · simp only [if_neg h5]; exact zwp_some (c_add s y y hs)
theorem r_fun (s : Int32) (k : Nat) (y : Int64) (hs : s = 0 ∨ s = 1) (hk : 3 ≤ k ∧ k ≤ 6) : zwp (fn_Ref_plain s (nI (k - 3)) y) (zrel s (zf k y)) := by
  have e3 : nI (k - 3) = 0 ↔ k = 3 := (nI_inj (b := 0) (by omega) (by omega)).trans (by omega)
  have e4 : nI (k - 3) = 1 ↔ k = 4 := (nI_inj (b := 1) (by omega) (by omega)).trans (by omega)
  have e5 : nI (k - 3) = 2 ↔ k = 5 := (nI_inj (b := 2) (by omega) (by omega)).trans (by omega)
  unfold fn_Ref_plain zf
  simp only [lg_cmp_ge, lg_cmp_le, e3, e4, e5]
  by_cases h3 : k = 3
  · simp only [if_pos h3]
    by_cases h : (0 : Int64) ≤ y
    · simp only [if_pos h]; exact zwp_some (r_rel hs rfl)
    · simp only [if_neg h]; exact zwp_some (r_minus s 0 y hs)
  simp only [if_neg h3]
  by_cases h4 : k = 4
  · simp only [if_pos h4]
    by_cases h : (0 : Int64) ≤ y
    · simp only [if_pos h]
      by_cases h' : y ≤ 0
      · simp only [if_pos h']; exact zwp_some (r_rel hs rfl)
      · simp only [if_neg h']; exact zwp_some (r_rel hs rfl)
    · simp only [if_neg h]; exact zwp_some (r_rel hs rfl)
  simp only [if_neg h4]
  by_cases h5 : k = 5
  · simp only [if_pos h5]; exact zwp_ret (r_mul s y y hs) (fun r hr => hr)
  · simp only [if_neg h5]; exact zwp_some (r_plus s y y hs)
/-- two rows of differences alike -/
def zrd (p : Nat) (t : Int32) (d : Nat → Int64) (t' : Int32) (d' : Nat → Int64) : Prop := t = t' ∧ (t = 0 ∨ t = 1) ∧ (t = 0 → ∀ j, j ≤ p → d j = d' j)
def zr3 (r r' : Int64 × Int32 × (Nat → Int64)) : Prop := r.2.1 = r'.2.1 ∧ (r.2.1 = 0 → r.1 = r'.1)
theorem zrel_st {s : Int32} {o : Option Int64} {r : Int64 × Int32} (h : zrel s o r) : r.2 = 0 ∨ r.2 = 1 := by
  rcases h with ⟨-, -, h⟩ | ⟨-, -, h⟩ | ⟨-, h⟩
  · exact Or.inl h
  · exact Or.inr h
  · exact Or.inr h
theorem zrd_sub {p i : Nat} {t t' : Int32} {d d' : Nat → Int64} (h : zrd p t d t' d') (hi : i + 1 ≤ p) :
    zrd p (fn_Eval_subtract t (d (i + 1)) (d i)).2 (vp_updL d i (fn_Eval_subtract t (d (i + 1)) (d i)).1) (fn_Ref_minus t' (d' (i + 1)) (d' i)).2 (vp_updL d' i (fn_Ref_minus t' (d' (i + 1)) (d' i)).1) := by
  obtain ⟨rfl, h1, h2⟩ := h
  have hc := c_sub t (d (i + 1)) (d i) h1
  have hr := r_minus t (d' (i + 1)) (d' i) h1
  rcases h1 with rfl | rfl
  · rw [← h2 rfl (i + 1) hi, ← h2 rfl i (by omega)] at hr ⊢
    have hs := zrel_same hc hr
    refine ⟨hs.1, zrel_st hc, fun e j hj => ?_⟩
    unfold vp_updL
    split
    · exact hs.2 e
    · exact h2 rfl j hj
  · have a1 : (fn_Eval_subtract 1 (d (i + 1)) (d i)).2 = 1 := by
      rcases hc with ⟨h, -⟩ | ⟨h, -⟩ | ⟨-, h⟩
      · exact absurd h (by decide)
      · exact absurd h (by decide)
      · exact h
    have a2 : (fn_Ref_minus 1 (d' (i + 1)) (d' i)).2 = 1 := by
      rcases hr with ⟨h, -⟩ | ⟨h, -⟩ | ⟨-, h⟩
      · exact absurd h (by decide)
      · exact absurd h (by decide)
      · exact h
    exact ⟨a1.trans a2.symm, Or.inr a1, fun e => by rw [a1] at e; exact absurd e (by decide)⟩
theorem t_inner (p m : Nat) (hm : 1 ≤ m ∧ m ≤ p) (hp : p ≤ 3) (K : Int32 → (Nat → Int64) → Int32 → Int32 → Option (Int64 × Int32 × (Nat → Int64))) (K' : Int32 → (Nat → Int64) → Int32 → Option (Int64 × Int32 × (Nat → Int64)))
    (hK : ∀ t d t' d', zrd p t d t' d' → zw2 (K t d (nI p) (nI (p - m + 1) + 1)) (K' t' d' (nI m + (-1))) zr3) : ∀ (n i : Nat) (t t' : Int32) (d d' : Nat → Int64), i ≤ m → m - i < n → zrd p t d t' d' →
    zw2 (fn_Eval_applyPrimed_L59 K n t d (nI p) (nI (p - m + 1)) (nI i)) (fn_Ref_function_L77 K' n t' d' (nI m) (nI i)) zr3
  | 0, _, _, _, _, _, _, h, _ => absurd h (Nat.not_lt_zero _)
  | n + 1, i, t, t', d, d', hi, hn, h => by
    unfold fn_Eval_applyPrimed_L59 fn_Ref_function_L77
    rw [nI_add]
    by_cases he : i = m
    · subst he
      rw [if_pos (nI_lt (by omega) (by omega)), if_pos (Int32.le_refl _)]
      exact hK _ _ _ _ h
    · rw [if_neg (nI_nlt (by omega) (by omega)), if_neg (nI_ge (by omega) (by omega)), nI_add1, if_neg (nI_in (by omega) (by omega)), if_neg (nI_in (by omega) (by omega)), if_neg (nI_in (by omega) (by omega)), if_neg (nI_in (by omega) (by omega)), if_neg (nI_in (by omega) (by omega)), if_neg (nI_in (by omega) (by omega)), nI_clamp (by omega), nI_clamp (by omega)]
      exact t_inner p m hm hp K K' hK n (i + 1) _ _ _ _ (by omega) (by omega) (zrd_sub h (by omega))
theorem t_outer (p : Nat) (hp : p ≤ 3) : ∀ (n m : Nat) (t t' : Int32) (d d' : Nat → Int64), m ≤ p → m < n → zrd p t d t' d' →
    zw2 (fn_Eval_applyPrimed_L49 n t d (nI p) (nI (p - m + 1))) (fn_Ref_function_L69 n t' d' (nI m)) zr3
  | 0, _, _, _, _, _, _, h, _ => absurd h (Nat.not_lt_zero _)
  | n + 1, m, t, t', d, d', hm, hn, h => by
    unfold fn_Eval_applyPrimed_L49 fn_Ref_function_L69
    by_cases h0 : m = 0
    · subst h0
      rw [if_pos (nI_lt (by omega) (by omega)), if_pos (show nI 0 ≤ 0 from Int32.le_refl _), if_neg (by decide), if_neg (by decide)]
      exact zw2_some ⟨h.1, fun e => h.2.2 e 0 (Nat.zero_le _)⟩
    · rw [if_neg (nI_nlt (by omega) (by omega)), if_neg (show ¬ nI m ≤ 0 from nI_ge (a := 0) (by omega) (by omega))]
      refine t_inner p m ⟨by omega, hm⟩ hp _ _ (fun t d t' d' h => ?_) zFU 0 t t' d d' (Nat.zero_le _) (Nat.lt_of_le_of_lt (by omega : m - 0 ≤ 3) (by decide)) h
      obtain ⟨m', rfl⟩ : ∃ m', m = m' + 1 := ⟨m - 1, by omega⟩
      rw [show nI (m' + 1) + -1 = nI (m' + 1) - 1 from (Int32.sub_eq_add_neg _ _).symm, nI_sub1, nI_add1, show p - (m' + 1) + 1 + 1 = p - m' + 1 by omega]
      exact t_outer p hp n m' t t' d d' (by omega) (by omega) h
/-- a function with primes: the value at a place -/
def zfv (k : Nat) (x : Int64) (i : Nat) : Option Int64 := (zoa x (lN i)).bind (zf k)
def zph (k p : Nat) (x : Int64) (t : Int32) (d : Nat → Int64) : Prop := (t = 0 ∨ t = 1) ∧ (t = 0 → ∀ i, i ≤ p → zfv k x i = some (d i)) ∧ (t = 1 → ∃ i, i ≤ p ∧ zfv k x i = none)
theorem zph_rd {k p : Nat} {x : Int64} {t t' : Int32} {d d' : Nat → Int64} (h : zph k p x t d) (h' : zph k p x t' d') : zrd p t d t' d' := by
  obtain ⟨h1, h2, h3⟩ := h
  obtain ⟨g1, g2, g3⟩ := h'
  have key : t = t' := by
    rcases h1 with rfl | rfl <;> rcases g1 with rfl | rfl
    · rfl
    · obtain ⟨i, hi, e⟩ := g3 rfl
      rw [h2 rfl i hi] at e; cases e
    · obtain ⟨i, hi, e⟩ := h3 rfl
      rw [g2 rfl i hi] at e; cases e
    · rfl
  exact ⟨key, h1, fun e j hj => Option.some.inj ((h2 e j hj).symm.trans (g2 (key ▸ e) j hj))⟩
theorem ztoI64 : ∀ i, i < 4 → (nI i).toInt64 = lN i := by decide
theorem c_ph (k p : Nat) (x : Int64) (hk : 3 ≤ k ∧ k ≤ 6) (hp : p ≤ 3) (P : Int64 × Int32 × (Nat → Int64) → Prop) (hP : ∀ t d, zph k p x t d → zwp (fn_Eval_applyPrimed_L49 zFU t d (nI p) 1) P) : ∀ (n i : Nat) (s : Int32) (d : Nat → Int64), i ≤ p + 1 → i < n → (s = 0 ∨ s = 1) → (s = 0 → ∀ j, i ≤ j → j ≤ p → zfv k x j = some (d j)) → (s = 1 → ∃ j, j ≤ p ∧ zfv k x j = none) →
    zwp (fn_Eval_applyPrimed_L15 n s d (nI k) x (nI p) (nI i - 1)) P
  | 0, _, _, _, _, h, _, _, _ => absurd h (Nat.not_lt_zero _)
  | n + 1, i, s, d, hi, hn, hs, h0, h1 => by
    unfold fn_Eval_applyPrimed_L15
    cases i with
    | zero =>
      exact zwp_t (by decide) (hP s d ⟨hs, fun e j hj => h0 e j (Nat.zero_le _) hj, h1⟩)
    | succ i =>
      rw [nI_sub1]
      refine zwp_f (nI_pos (by omega)) ?_
      rw [ztoI64 i (by omega)]
      have ha := c_add s x (lN i) hs
      have hs1 := zrel_st ha
      refine zwp_seq (c_fun _ k _ hs1 hk) (fun r hr => zwp_f (nI_in (by omega) (by omega)) ?_)
      rw [nI_clamp (by omega), show nI i + -1 = nI i - 1 from (Int32.sub_eq_add_neg _ _).symm]
      refine c_ph k p x hk hp P hP n i _ _ (by omega) (by omega) (zrel_st hr) (fun e j hj1 hj2 => ?_) (fun e => ?_)
      · -- all went well
        rcases hr with ⟨g1, g2, g3⟩ | ⟨g1, g2, g3⟩ | ⟨g1, g3⟩
        · rcases ha with ⟨f1, f2, f3⟩ | ⟨f1, f2, f3⟩ | ⟨f1, f3⟩
          · unfold vp_updL
            by_cases hj : j = i
            · rw [if_pos hj, hj]; unfold zfv; rw [f2, Option.bind_some]; exact g2
            · rw [if_neg hj]; exact h0 f1 j (by omega) hj2
          · rw [f3] at g1; exact absurd g1 (by decide)
          · rw [f3] at g1; exact absurd g1 (by decide)
        · rw [g3] at e; exact absurd e (by decide)
        · rw [g3] at e; exact absurd e (by decide)
      · rcases ha with ⟨f1, f2, f3⟩ | ⟨f1, f2, f3⟩ | ⟨f1, f3⟩
        · rcases hr with ⟨g1, g2, g3⟩ | ⟨g1, g2, g3⟩ | ⟨g1, g3⟩
          · rw [g3] at e; exact absurd e (by decide)
          · exact ⟨i, by omega, by unfold zfv; rw [f2, Option.bind_some]; exact g2⟩
          · rw [f3] at g1; exact absurd g1 (by decide)
        · exact ⟨i, by omega, by unfold zfv; rw [f2]; rfl⟩
        · exact h1 f1
theorem zoa_next {x y : Int64} {i : Nat} (hi : i < 10) (h : zoa x (lN i) = some y) : zoa y 1 = zoa x (lN (i + 1)) := by
  have hx := zI64 x; have hy := zI64 y
  have e1 : (lN i).toInt = (i : Int) := lN_toInt (by omega)
  have e2 : (lN (i + 1)).toInt = ((i + 1 : Nat) : Int) := lN_toInt (by omega)
  have e3 : (1 : Int64).toInt = 1 := by decide
  unfold zoa at h
  rw [e1] at h
  split at h
  · rename_i hf
    have h := Option.some.inj h
    have hyv : y.toInt = x.toInt + i := by
      rw [← h, zadd_toInt, e1]
      rcases zbm (x.toInt + i) (by omega) (by omega) with ⟨_, _, h3⟩ | ⟨h3, _⟩ | ⟨h3, _⟩
      · exact h3
      · omega
      · omega
    unfold zoa
    rw [e2, e3, hyv, ← h, ← zlN1, ← Int64.add_assoc]
    by_cases h9 : x.toInt + ↑i + 1 < 9223372036854775808
    · rw [if_pos (by omega), if_pos (by omega)]
    · rw [if_neg (by omega), if_neg (by omega)]
  · cases h
theorem r_ph (k p : Nat) (x : Int64) (hk : 3 ≤ k ∧ k ≤ 6) (hp : p ≤ 3) (P : Int64 × Int32 × (Nat → Int64) → Prop) (hP : ∀ t d, zph k p x t d → zwp (fn_Ref_function_L69 zFU t d (nI p)) P) : ∀ (n i : Nat) (s : Int32) (d : Nat → Int64) (y : Int64), i ≤ p + 1 → p + 1 - i < n → (s = 0 ∨ s = 1) → (s = 0 → ∀ j, j < i → zfv k x j = some (d j)) → (s = 0 → i ≤ p → zoa x (lN i) = some y) → (s = 1 → ∃ j, j ≤ p ∧ zfv k x j = none) →
    zwp (fn_Ref_function_L16 n s d (nI (k - 3)) (nI p) y (nI i)) P
  | 0, _, _, _, _, _, h, _, _, _, _ => absurd h (Nat.not_lt_zero _)
  | n + 1, i, s, d, y, hi, hn, hs, h0, hy, h1 => by
    unfold fn_Ref_function_L16 fn_Ref_function_b57
    by_cases he : i = p + 1
    · exact zwp_t (nI_lt (by omega) (by omega)) (hP s d ⟨hs, fun e j hj => h0 e j (by omega), h1⟩)
    · refine zwp_f (nI_nlt (by omega) (by omega)) (zwp_seq (r_fun s k y hs hk) (fun r hr => zwp_f (nI_in (by omega) (by omega)) ?_))
      rw [nI_clamp (by omega), nI_add1]
      have hrow : ∀ v, r.2 = 0 → zrel s (zf k y) r → v = r.1 → ∀ j, j < i + 1 → zfv k x j = some (vp_updL d i v j) := by
        rintro v e hr rfl j hj
        rcases hr with ⟨g1, g2, g3⟩ | ⟨g1, g2, g3⟩ | ⟨g1, g3⟩
        · unfold vp_updL
          by_cases hj : j = i
          · rw [if_pos hj, hj]; unfold zfv; rw [hy g1 (by omega), Option.bind_some]; exact g2
          · rw [if_neg hj]; exact h0 g1 j (by omega)
        · rw [g3] at e; exact absurd e (by decide)
        · rw [g3] at e; exact absurd e (by decide)
      have hbad : r.2 = 1 → ∃ j, j ≤ p ∧ zfv k x j = none := by
        intro e
        rcases hr with ⟨g1, g2, g3⟩ | ⟨g1, g2, g3⟩ | ⟨g1, g3⟩
        · rw [g3] at e; exact absurd e (by decide)
        · exact ⟨i, by omega, by unfold zfv; rw [hy g1 (by omega), Option.bind_some]; exact g2⟩
        · exact h1 g1
      by_cases hl : i = p
      · refine zwp_t (nI_le (by omega) (by omega)) ?_
        exact r_ph k p x hk hp P hP n (i + 1) _ _ y (by omega) (by omega) (zrel_st hr) (fun e => hrow _ e hr rfl) (fun _ h => by omega) hbad
      · refine zwp_f (nI_ge (by omega) (by omega)) ?_
        have hpl := r_plus r.2 y 1 (zrel_st hr)
        have hr0 : r.2 = 0 → s = 0 := by
          intro e
          rcases hr with ⟨g1, -⟩ | ⟨g1, -⟩ | ⟨-, g3⟩
          · exact g1
          · exact g1
          · rw [g3] at e; exact absurd e (by decide)
        refine r_ph k p x hk hp P hP n (i + 1) _ _ _ (by omega) (by omega) (zrel_st hpl) (fun e => ?_) (fun e _ => ?_) (fun e => ?_)
        · rcases hpl with ⟨f1, -⟩ | ⟨f1, -, f3⟩ | ⟨f1, f3⟩
          · exact hrow _ f1 hr rfl
          · rw [f3] at e; exact absurd e (by decide)
          · rw [f3] at e; exact absurd e (by decide)
        · rcases hpl with ⟨f1, f2, f3⟩ | ⟨f1, f2, f3⟩ | ⟨f1, f3⟩
          · rw [← zoa_next (by omega) (hy (hr0 f1) (by omega))]; exact f2
          · rw [f3] at e; exact absurd e (by decide)
          · rw [f3] at e; exact absurd e (by decide)
        · rcases hpl with ⟨f1, f2, f3⟩ | ⟨f1, f2, f3⟩ | ⟨f1, f3⟩
          · rw [f3] at e; exact absurd e (by decide)
          · refine ⟨i + 1, by omega, ?_⟩
            unfold zfv
            rw [← zoa_next (by omega) (hy (hr0 f1) (by omega)), f2]; rfl
          · exact hbad f1
theorem t_fun (k p : Nat) (x : Int64) (hk : 3 ≤ k ∧ k ≤ 6) (hp : p ≤ 3) (d d' : Nat → Int64) : zw2 (fn_Eval_applyPrimed 0 d (nI k) (nI p) x) (fn_Ref_function 0 d' (nI (k - 3 + 4 * p)) x) zr3 := by
  have hcl : (if (0 : Int32) < (if (3 : Int32) < nI p then 3 else nI p) then (if (3 : Int32) < nI p then 3 else nI p) else 0) = nI p := by
    rw [if_neg (show ¬ (3 : Int32) < nI p from nI_nlt (a := 3) (b := p) (by omega) (by omega))]
    by_cases h : p = 0
    · subst h; rfl
    · rw [if_pos (show (0 : Int32) < nI p from nI_lt (a := 0) (b := p) (by omega) (by omega))]
  have hmod : ∀ k, k < 7 → 3 ≤ k → ∀ p, p < 4 → nI (k - 3 + 4 * p) - nI (k - 3 + 4 * p) / 4 * 4 = nI (k - 3) ∧ nI (k - 3 + 4 * p) / 4 = nI p := by decide +kernel
  obtain ⟨m1, m2⟩ := hmod k (by omega) hk.1 p (by omega)
  unfold fn_Eval_applyPrimed fn_Ref_function
  rw [hcl, m1, m2]
  -- the reference's end, then the class's
  have hr : zwp (fn_Ref_function_L16 zFU 0 d' (nI (k - 3)) (nI p) x 0) (fun r' => zwp (fn_Eval_applyPrimed_L15 zFU 0 d (nI k) x (nI p) (nI p)) (fun r => zr3 r r')) := by
    refine r_ph k p x hk hp _ (fun t' e' h' => ?_) zFU 0 0 d' x (Nat.zero_le _) (Nat.lt_of_le_of_lt (by omega : p + 1 - 0 ≤ 4) (by decide)) (Or.inl rfl) (fun _ j hj => by omega) (fun _ _ => ?_) (fun h => absurd h (by decide))
    · have hc : ∀ t e, zph k p x t e → zw2 (fn_Eval_applyPrimed_L49 zFU t e (nI p) 1) (fn_Ref_function_L69 zFU t' e' (nI p)) zr3 := by
        intro t e h
        have := t_outer p hp zFU p t t' e e' (Nat.le_refl _) (Nat.lt_of_le_of_lt hp (by decide)) (zph_rd h h')
        rw [show p - p + 1 = 1 by omega] at this
        exact this
      -- what the reference answers is one thing
      cases hz : fn_Ref_function_L69 zFU t' e' (nI p) with
      | none =>
        exfalso
        have : zwp (fn_Eval_applyPrimed_L15 zFU 0 d (nI k) x (nI p) (nI p)) (fun _ => False) := by
          have := c_ph k p x hk hp (fun _ => False) (fun t e h => by obtain ⟨a, b, -, e2, -⟩ := hc t e h; rw [hz] at e2; cases e2) zFU (p + 1) 0 d (Nat.le_refl _) (Nat.lt_of_le_of_lt (by omega : p + 1 ≤ 4) (by decide)) (Or.inl rfl) (fun _ j h1 h2 => by omega) (fun h => absurd h (by decide))
          rw [nI_sub1] at this; exact this
        obtain ⟨_, _, h⟩ := this
        exact h
      | some b =>
        refine zwp_some ?_
        have := c_ph k p x hk hp (fun r => zr3 r b) (fun t e h => by obtain ⟨a, b', e1, e2, h3⟩ := hc t e h; rw [hz] at e2; cases e2; exact ⟨a, e1, h3⟩) zFU (p + 1) 0 d (Nat.le_refl _) (Nat.lt_of_le_of_lt (by omega : p + 1 ≤ 4) (by decide)) (Or.inl rfl) (fun _ j h1 h2 => by omega) (fun h => absurd h (by decide))
        rw [nI_sub1] at this; exact this
    · have hx := zI64 x
      have e0 : (lN 0).toInt = 0 := by decide
      unfold zoa
      rw [e0, if_pos (by omega), show lN 0 = 0 from rfl, Int64.add_zero]
  obtain ⟨b, e2, a, e1, h⟩ := hr
  exact ⟨a, b, e1, e2, h⟩
/-- a node at place i -/
def znk (i : Nat) (q : Nat × Nat × Nat × Nat) : Prop :=
  (q.1 = 1 ∧ q.2.1 < 1000000) ∨ (q.1 = 2 ∧ q.2.1 < 26) ∨ (3 ≤ q.1 ∧ q.1 ≤ 6 ∧ q.2.1 ≤ 3 ∧ q.2.2.1 < i) ∨ (7 ≤ q.1 ∧ q.1 ≤ 12 ∧ q.2.2.1 < i ∧ q.2.2.2 < i) ∨ (q.1 = 13 ∧ q.2.2.1 < i)
def znok (nd : List (Nat × Nat × Nat × Nat)) : Prop := ∀ (i : Nat) (q : Nat × Nat × Nat × Nat), nd[i]? = some q → znk i q
theorem zgetlt {α : Type} {l : List α} {i : Nat} {a : α} (h : l[i]? = some a) : i < l.length := (List.getElem?_eq_some_iff.mp h).1
section EV
variable {tc : Int32} {tk td tl tr g : Nat → Int32} {mn : Int32} {ms ml mr mw mv : Nat → Int32} {nd : List (Nat × Nat × Nat × Nat)}
theorem sp_tkind (h : zct tc tk td tl tr nd) {i : Nat} {q : Nat × Nat × Nat × Nat} (hi : nd[i]? = some q) : fn_Tree_kindOf tc tk (nI i) = some (nI q.1) ∧ fn_Tree_detailOf tc td (nI i) = some (nI q.2.1) ∧ fn_Tree_leftOf tc tl (nI i) = some (zgl q) ∧ fn_Tree_rightOf tc tr (nI i) = some (zgr q) := by
  obtain ⟨rfl, h0, h1, h2, h3, h4⟩ := h
  have hlt := zgetlt hi
  have hn : ¬ fn_Tree_hasNode (nI nd.length) (nI i) = 0 := by
    unfold fn_Tree_hasNode
    rw [if_neg (nI_pos (by omega)), if_neg (nI_ge hlt (by omega))]; decide
  unfold fn_Tree_kindOf fn_Tree_detailOf fn_Tree_leftOf fn_Tree_rightOf
  rw [if_neg hn, if_neg hn, if_neg hn, if_neg hn, if_neg (nI_in (by omega) (by omega)), if_neg (nI_in (by omega) (by omega)), if_neg (nI_in (by omega) (by omega)), if_neg (nI_in (by omega) (by omega)), nI_clamp (by omega), h1 i q hi, h2 i q hi, h3 i q hi, h4 i q hi]
  exact ⟨rfl, rfl, rfl, rfl⟩
theorem sp_vat (v : Nat → Int64) (j : Nat) (h : j < 160) : fn_Eval_valueAt v (nI j) = some (v j) := by
  unfold fn_Eval_valueAt
  rw [if_neg (nI_pos (by omega)), if_neg (show ¬ (160 : Int32) ≤ nI j from nI_ge (b := 160) h (by omega)), if_neg (nI_in (by omega) (by omega)), nI_clamp (by omega)]
theorem sp_vat0 (v : Nat → Int64) : fn_Eval_valueAt v (-1) = some 0 := by
  unfold fn_Eval_valueAt; rw [if_pos (by decide)]
/-- where the value of an operand comes from -/
def zvl (v : Nat → Int64) (q : Nat × Nat × Nat × Nat) : Int64 := if q.1 ≤ 2 then 0 else v q.2.2.1
def zvr (v : Nat → Int64) (q : Nat × Nat × Nat × Nat) : Int64 := if 7 ≤ q.1 ∧ q.1 ≤ 12 then v q.2.2.2 else 0
theorem znk_lt {i : Nat} {q : Nat × Nat × Nat × Nat} (h : znk i q) : (¬ q.1 ≤ 2 → q.2.2.1 < i) ∧ (7 ≤ q.1 ∧ q.1 ≤ 12 → q.2.2.2 < i) ∧ 1 ≤ q.1 ∧ q.1 ≤ 13 := by
  unfold znk at h
  rcases h with ⟨h1, h2⟩ | ⟨h1, h2⟩ | ⟨h1, h2, h3, h4⟩ | ⟨h1, h2, h3, h4⟩ | ⟨h1, h2⟩
  · exact ⟨fun h => by omega, fun h => by omega, by omega, by omega⟩
  · exact ⟨fun h => by omega, fun h => by omega, by omega, by omega⟩
  · exact ⟨fun h => by omega, fun h => by omega, by omega, by omega⟩
  · exact ⟨fun h => by omega, fun h => by omega, by omega, by omega⟩
  · exact ⟨fun h => by omega, fun h => by omega, by omega, by omega⟩
theorem zkall : ∀ k, k < 14 → 1 ≤ k → (fn_Parser_isBinary (nI k) = 0 ∨ True) := fun _ _ _ => Or.inr trivial
/-- a node's value, in the reference -/
theorem rp_vl (h : zrt mn ms ml mr mw nd) {i : Nat} {q : Nat × Nat × Nat × Nat} (hi : nd[i]? = some q) (hq : znk i q) (s : Int32) (row r : Nat → Int64) (mv : Nat → Int32) :
    fn_Ref_valueOf s mv ms ml mr mw r row (nI i) = fn_Ref_valueOf_b53 mv ms ml mr mw r s row (nI i) (if 7 ≤ q.1 ∧ q.1 ≤ 12 then r q.2.2.1 else 0) (if 7 ≤ q.1 ∧ q.1 ≤ 12 then r q.2.2.2 else if q.1 ≤ 2 then 0 else r q.2.2.1) := by
  obtain ⟨-, h0, h1, h2, h3, h4⟩ := h
  have hlt := zgetlt hi
  obtain ⟨l1, l2, -⟩ := znk_lt hq
  have hin : ¬ (nI i < 0 ∨ 200 ≤ i) := nI_in2 (by omega) (by omega)
  have hcl : (nI i).toNatClampNeg = i := nI_clamp (by omega)
  unfold fn_Ref_valueOf fn_Ref_valueOf_b26
  simp only [hcl, if_neg hin, h2 i q hi, h3 i q hi]
  unfold zrl zrr
  by_cases hb : 7 ≤ q.1 ∧ q.1 ≤ 12
  · have := l1 (by omega); have := l2 hb
    simp only [if_pos hb]
    rw [if_neg (nI_ne_neg (by omega) (by decide)), if_neg (nI_in (by omega) (by omega)), if_neg (nI_ne_neg (by omega) (by decide)), if_neg (nI_in (by omega) (by omega)), nI_clamp (by omega), nI_clamp (by omega)]
  · simp only [if_neg hb, if_true]
    by_cases h2 : q.1 ≤ 2
    · simp only [if_pos h2, if_true]
    · have := l1 h2
      simp only [if_neg h2]
      rw [if_neg (nI_ne_neg (by omega) (by decide)), if_neg (nI_in (by omega) (by omega)), nI_clamp (by omega)]
theorem t_node (hc : zct tc tk td tl tr nd) (hr : zrt mn ms ml mr mw nd) {i : Nat} {q : Nat × Nat × Nat × Nat} (hi : nd[i]? = some q) (hq : znk i q) (v r d row : Nat → Int64) (hv : ∀ j, j < i → v j = r j) (hg : ∀ j, j < 26 → g j = mv j) :
    zw2 (fn_Eval_valueOfNode 0 v d tc tk td tl tr g (nI i)) (fn_Ref_valueOf 0 mv ms ml mr mw r row (nI i)) zr3 := by
  obtain ⟨c1, c2, c3, c4⟩ := sp_tkind hc hi
  obtain ⟨l1, l2, l3, l4⟩ := znk_lt hq
  have hlt := zgetlt hi
  have hcap := hc.2.1
  rw [rp_vl hr hi hq]
  have cl : fn_Eval_valueAt v (zgl q) = some (zvl v q) := by
    unfold zgl zvl
    by_cases h : q.1 ≤ 2
    · rw [if_pos h, if_pos h, sp_vat0]
    · have := l1 h
      rw [if_neg h, if_neg h, sp_vat v _ (by omega)]
  have cr : fn_Eval_valueAt v (zgr q) = some (zvr v q) := by
    unfold zgr zvr
    by_cases h : 7 ≤ q.1 ∧ q.1 ≤ 12
    · have := l2 h
      rw [if_pos h, if_pos h, sp_vat v _ (by omega)]
    · rw [if_neg h, if_neg h, sp_vat0]
  unfold fn_Eval_valueOfNode
  rw [c1, Option.bind_some, c2, Option.bind_some, c3, Option.bind_some, cl, Option.bind_some, c4, Option.bind_some, cr, Option.bind_some]
  obtain ⟨-, -, h1, -, -, h4⟩ := hr
  have hin : ¬ (nI i < 0 ∨ 200 ≤ i) := nI_in2 (by omega) (by omega)
  have hcl : (nI i).toNatClampNeg = i := nI_clamp (by omega)
  unfold fn_Ref_valueOf_b53 fn_Ref_valueOf_b242
  simp only [hcl, if_neg hin, h1 i q hi, h4 i q hi]
  unfold zrh zwt zvl zvr
  unfold fn_Eval_valueOfNode_b148 fn_Eval_valueOfNode_b183
  obtain ⟨k, dt, l, rr⟩ := q
  dsimp only at l1 l2 l3 l4 hq ⊢
  have hbin : ∀ {x y : Option (Int64 × Int32)}, zw2 x y zsame → zw2 (x.bind fun q31 => some (q31.1, q31.2, d)) (y.bind fun q20 => some (q20.1, q20.2, row)) zr3 := fun h => zw2_seq h fun a b hab => zw2_some hab
  unfold znk at hq
  dsimp only at hq
  rcases hq with ⟨rfl, h2⟩ | ⟨rfl, h2⟩ | ⟨h2, h3, h5, h6⟩ | ⟨h2, h3, h5, h6⟩ | ⟨rfl, h2⟩
  · exact zw2_some ⟨rfl, fun _ => rfl⟩
  · have e26 : ¬ (26 : Int32) ≤ nI dt := nI_ge (b := 26) h2 (by omega)
    have eneg := nI_pos (n := dt) (by omega)
    have e2 : (2 : Nat) ≤ 2 := Nat.le_refl 2
    simp only [if_pos e2, if_neg eneg, if_neg e26, if_neg (nI_in h2 (by omega)), nI_clamp (show dt < 2 ^ 31 by omega)]
    have eo : ¬ (nI dt < 0 ∨ 26 ≤ dt) := nI_in2 h2 (by omega)
    try simp only [if_neg eo]
    exact zw2_some ⟨rfl, fun _ => congrArg Int32.toInt64 (hg dt h2)⟩
  · have hb : ¬ (7 ≤ k ∧ k ≤ 12) := by omega
    have hk2 : ¬ k ≤ 2 := by omega
    have hk3 : 3 ≤ k ∧ k ≤ 6 := ⟨h2, h3⟩
    have ez : nI (zka k) = 3 := by
      have : ∀ k, k < 7 → 3 ≤ k → nI (zka k) = 3 := by decide
      exact this k (by omega) h2
    simp only [ez, if_neg hb, if_neg hk2, if_pos hk3]
    have hk : k = 3 ∨ k = 4 ∨ k = 5 ∨ k = 6 := by omega
    have hf := t_fun k dt (v l) hk3 h5 d row
    rw [hv l h6] at hf ⊢
    have hfin : zw2 ((fn_Eval_applyPrimed 0 d (nI k) (nI dt) (r l)).bind fun q19 => some (q19.1, q19.2.1, q19.2.2)) ((fn_Ref_function 0 row (nI (k - 3 + 4 * dt)) (r l)).bind fun q17 => some (q17.1, q17.2.1, q17.2.2)) zr3 := zw2_seq hf fun a b hab => zw2_some hab
    rcases hk with rfl | rfl | rfl | rfl <;> exact hfin
  · have hb : 7 ≤ k ∧ k ≤ 12 := ⟨h2, h3⟩
    have hk2 : ¬ k ≤ 2 := by omega
    have hk3 : ¬ (3 ≤ k ∧ k ≤ 6) := by omega
    simp only [if_pos hb, if_neg hk2, if_neg hk3, hv l h5, hv rr h6]
    have hk : k = 7 ∨ k = 8 ∨ k = 9 ∨ k = 10 ∨ k = 11 ∨ k = 12 := by omega
    rcases hk with rfl | rfl | rfl | rfl | rfl | rfl
    · exact zw2_some (t_add _ _)
    · exact zw2_some (t_sub _ _)
    · exact hbin (t_mul _ _)
    · exact hbin (t_div _ _)
    · exact hbin (t_pow _ _)
    · exact hbin (t_mul _ _)
  · rw [← hv l h2]
    exact zw2_some (t_sub 0 (v l))
end EV
/-! Links: kinds of the tokens before each sum but the first. -/
def zlk : List Nat → Prop
  | [] => True
  | [k] => 14 ≤ k ∧ k ≤ 19
  | k :: m :: J => (14 ≤ k ∧ k ≤ 19 ∧ zlk (m :: J)) ∨ (k = 20 ∧ m = 21 ∧ zlk J)
theorem zlk_cons (k : Nat) (J : List Nat) : zlk (k :: J) ↔ (14 ≤ k ∧ k ≤ 19 ∧ zlk J) ∨ (k = 20 ∧ ∃ J', J = 21 :: J' ∧ zlk J') := by
  cases J with
  | nil =>
    constructor
    · intro h; exact Or.inl ⟨h.1, h.2, trivial⟩
    · rintro (⟨h1, h2, -⟩ | ⟨-, J', h, -⟩)
      · exact ⟨h1, h2⟩
      · cases h
  | cons m J =>
    constructor
    · rintro (h | ⟨h1, h2, h3⟩)
      · exact Or.inl h
      · exact Or.inr ⟨h1, J, by rw [h2], h3⟩
    · rintro (h | ⟨h1, J', h2, h3⟩)
      · exact Or.inl h
      · cases h2; exact Or.inr ⟨h1, rfl, h3⟩
theorem zlk_snoc : ∀ (n : Nat) (J X : List Nat), J.length ≤ n → zlk J → zlk X → zlk (J ++ X)
  | _, [], X, _, _, hX => hX
  | 0, k :: J, X, h, _, _ => by simp at h
  | n + 1, k :: J, X, h, hJ, hX => by
    rcases (zlk_cons _ _).mp hJ with ⟨h1, h2, h3⟩ | ⟨h1, J', h2, h3⟩
    · exact (zlk_cons _ _).mpr (Or.inl ⟨h1, h2, zlk_snoc n J X (by simpa using h) h3 hX⟩)
    · subst h2
      exact (zlk_cons _ _).mpr (Or.inr ⟨h1, J' ++ X, rfl, zlk_snoc n J' X (by simp at h; omega) h3 hX⟩)
def zR (J : List Nat) : List Nat := J.filter (fun k => decide (14 ≤ k) && decide (k ≤ 20))
theorem zR_1 {k : Nat} {J : List Nat} (h : 14 ≤ k ∧ k ≤ 20) : zR (k :: J) = k :: zR J := by
  unfold zR; rw [List.filter_cons_of_pos]; simp [h.1, h.2]
theorem zR_21 {J : List Nat} : zR (21 :: J) = zR J := by
  unfold zR; rw [List.filter_cons_of_neg]; decide
/-- the sum before a link -/
def zpos : List Nat → Nat → Nat
  | _, 0 => 0
  | [], _ + 1 => 0
  | k :: R, n + 1 => (if k = 20 then 2 else 1) + zpos R n
/-- places of links, counted from 1 behind J's start -/
theorem zpos_at : ∀ (m : Nat) (J : List Nat), J.length ≤ m → zlk J → ∀ n k, (zR J)[n]? = some k → J[zpos (zR J) n]? = some k ∧ (k = 20 → J[zpos (zR J) n + 1]? = some 21) ∧ 14 ≤ k ∧ k ≤ 20
  | _, [], _, _, n, k, h => by simp [zR] at h
  | 0, _ :: _, h, _, _, _, _ => by simp at h
  | m + 1, a :: J, hm, hJ, n, k, h => by
    rcases (zlk_cons _ _).mp hJ with ⟨h1, h2, h3⟩ | ⟨h1, J', h2, h3⟩
    · rw [zR_1 ⟨h1, by omega⟩] at h ⊢
      cases n with
      | zero =>
        simp at h; subst h
        exact ⟨rfl, fun e => by omega, h1, by omega⟩
      | succ n =>
        have h' : (zR J)[n]? = some k := by simpa using h
        obtain ⟨a1, a2, a3⟩ := zpos_at m J (by simpa using hm) h3 n k h'
        have e : zpos (a :: zR J) (n + 1) = zpos (zR J) n + 1 := by
          show (if a = 20 then 2 else 1) + zpos (zR J) n = _
          rw [if_neg (by omega)]; omega
        rw [e]
        exact ⟨by simpa using a1, fun hk => by have := a2 hk; simpa using this, a3⟩
    · subst h1; subst h2
      rw [zR_1 (by omega), zR_21] at h ⊢
      cases n with
      | zero =>
        simp at h; subst h
        exact ⟨rfl, fun _ => rfl, by omega, by omega⟩
      | succ n =>
        have h' : (zR J')[n]? = some k := by simpa using h
        obtain ⟨a1, a2, a3⟩ := zpos_at m J' (by simp at hm; omega) h3 n k h'
        have e : zpos (20 :: zR J') (n + 1) = zpos (zR J') n + 2 := by
          show (if 20 = 20 then 2 else 1) + zpos (zR J') n = _
          rw [if_pos rfl]; omega
        rw [e]
        exact ⟨by simpa using a1, fun hk => by have := a2 hk; simpa using this, a3⟩
/-- every place that starts a link is some link's, or it holds dots -/
theorem zpos_all : ∀ (m : Nat) (J : List Nat), J.length ≤ m → zlk J → ∀ s k, J[s]? = some k → (k = 21) ∨ (14 ≤ k ∧ k ≤ 20 ∧ ∃ n, (zR J)[n]? = some k ∧ zpos (zR J) n = s ∧ n = (zR (J.take s)).length)
  | _, [], _, _, s, k, h => by simp at h
  | 0, _ :: _, h, _, _, _, _ => by simp at h
  | m + 1, a :: J, hm, hJ, s, k, h => by
    rcases (zlk_cons _ _).mp hJ with ⟨h1, h2, h3⟩ | ⟨h1, J', h2, h3⟩
    · rw [zR_1 ⟨h1, by omega⟩]
      cases s with
      | zero =>
        simp at h; subst h
        exact Or.inr ⟨h1, by omega, 0, rfl, rfl, rfl⟩
      | succ s =>
        have h' : J[s]? = some k := by simpa using h
        rcases zpos_all m J (by simpa using hm) h3 s k h' with h9 | ⟨b1, b2, n, b3, b4, b5⟩
        · exact Or.inl h9
        · refine Or.inr ⟨b1, b2, n + 1, by simpa using b3, ?_, ?_⟩
          · show (if a = 20 then 2 else 1) + zpos (zR J) n = _
            rw [if_neg (by omega)]; omega
          · rw [List.take_succ_cons, zR_1 ⟨h1, by omega⟩, List.length_cons, b5]
    · subst h1; subst h2
      rw [zR_1 (by omega), zR_21]
      match s, h with
      | 0, h =>
        simp at h; subst h
        exact Or.inr ⟨by omega, by omega, 0, rfl, rfl, rfl⟩
      | 1, h => simp at h; exact Or.inl h.symm
      | s + 2, h =>
        have h' : J'[s]? = some k := by simpa using h
        rcases zpos_all m J' (by simp at hm; omega) h3 s k h' with h9 | ⟨b1, b2, n, b3, b4, b5⟩
        · exact Or.inl h9
        · refine Or.inr ⟨b1, b2, n + 1, by simpa using b3, ?_, ?_⟩
          · show (if 20 = 20 then 2 else 1) + zpos (zR J') n = _
            rw [if_pos rfl]; omega
          · rw [List.take_succ_cons, List.take_succ_cons, zR_1 (by omega), zR_21, List.length_cons, b5]
/-- a formula's sums -/
def zsums (nd : List (Nat × Nat × Nat × Nat)) (S : List (Nat × Nat)) : Prop := ∃ J, S.map (fun q => q.1) = 0 :: J ∧ zlk J ∧ S.length ≤ 9 ∧ (∀ q ∈ S, q.2 < nd.length) ∧ (zR J).length ≤ 4
section LC
variable {tc ts : Int32} {tk td tl tr to tj : Nat → Int32} {nd : List (Nat × Nat × Nat × Nat)} {S : List (Nat × Nat)}
theorem sp_root (h : ts = nI S.length) (h9 : S.length ≤ 9) (hr : zrw to (fun q => nI q.2) S) {i : Nat} {q : Nat × Nat} (hi : S[i]? = some q) : fn_Tree_rootOf ts to (nI i) = some (nI q.2) := by
  have hlt := zgetlt hi
  unfold fn_Tree_rootOf
  rw [h, if_neg (nI_pos (by omega)), if_neg (nI_ge hlt (by omega)), if_neg (nI_in (by omega) (by omega)), nI_clamp (by omega), hr i q hi]
theorem sp_joint (h : ts = nI S.length) (h9 : S.length ≤ 9) (hr : zrw tj (fun q => nI q.1) S) {i : Nat} {q : Nat × Nat} (hi : S[i]? = some q) : fn_Tree_jointOf ts tj (nI i) = some (nI q.1) := by
  have hlt := zgetlt hi
  unfold fn_Tree_jointOf
  rw [h, if_neg (nI_pos (by omega)), if_neg (nI_ge hlt (by omega)), if_neg (nI_in (by omega) (by omega)), nI_clamp (by omega), hr i q hi]
theorem zsl (k : Nat) (h : k < 25) : fn_Parser_startsLink (nI k) = if 14 ≤ k ∧ k ≤ 20 then 1 else 0 := (kfn k h).2.2.2.2.1
theorem zsj {S : List (Nat × Nat)} {J : List Nat} (h : S.map (fun q => q.1) = 0 :: J) {i : Nat} {q : Nat × Nat} (hi : S[i]? = some q) : (0 :: J)[i]? = some q.1 := by
  rw [← h, List.getElem?_map, hi]; rfl
theorem zlk_lt : ∀ (m : Nat) (J : List Nat), J.length ≤ m → zlk J → ∀ k ∈ J, 14 ≤ k ∧ k ≤ 21
  | _, [], _, _ => by simp
  | 0, _ :: _, h, _ => by simp at h
  | m + 1, a :: J, hm, hJ => by
    intro k hk
    rcases (zlk_cons _ _).mp hJ with ⟨h1, h2, h3⟩ | ⟨h1, J', h2, h3⟩
    · rcases List.mem_cons.mp hk with rfl | hk
      · omega
      · exact zlk_lt m J (by simpa using hm) h3 k hk
    · subst h2
      rcases List.mem_cons.mp hk with rfl | hk
      · omega
      · rcases List.mem_cons.mp hk with rfl | hk
        · omega
        · exact zlk_lt m J' (by simp at hm; omega) h3 k hk
theorem zj25 {J : List Nat} (hJ : zlk J) {i k : Nat} (h : (0 :: J)[i]? = some k) : k < 25 := by
  rcases List.mem_cons.mp (List.mem_of_getElem? h) with rfl | h
  · omega
  · have := zlk_lt J.length J (Nat.le_refl _) hJ k h; omega
theorem zR_take (L : List Nat) (i : Nat) {k : Nat} (h : L[i]? = some k) : (zR (L.take (i + 1))).length = (zR (L.take i)).length + (if 14 ≤ k ∧ k ≤ 20 then 1 else 0) := by
  unfold zR
  rw [List.take_add_one, h, Option.toList_some, List.filter_append, List.length_append]
  congr 1
  by_cases hk : 14 ≤ k ∧ k ≤ 20
  · simp [hk.1, hk.2]
  · rw [if_neg hk]
    have : (decide (14 ≤ k) && decide (k ≤ 20)) = false := by
      simp only [Bool.and_eq_false_iff, decide_eq_false_iff_not]; omega
    simp [this]
theorem sp_lc (hs : ts = nI S.length) (hj : zrw tj (fun q => nI q.1) S) {J : List Nat} (hJ : S.map (fun q => q.1) = 0 :: J) (hl : zlk J) (h9 : S.length ≤ 9) : ∀ (n i : Nat), i ≤ S.length → S.length - i < n →
    fn_Tree_linkCount_L4 ts tj n (nI (zR ((0 :: J).take i)).length) (nI i) = some (nI (zR J).length)
  | 0, _, _, h => absurd h (Nat.not_lt_zero _)
  | n + 1, i, hi, hn => by
    have hlen : (0 :: J).length = S.length := by rw [← hJ, List.length_map]
    unfold fn_Tree_linkCount_L4
    by_cases he : S.length ≤ i
    · rw [hs, if_pos (nI_le he (by omega)), List.take_of_length_le (by omega)]
      rfl
    · have hlt : i < S.length := by omega
      have hq := List.getElem?_eq_getElem hlt
      have hk := zsj hJ hq
      rw [if_neg (by rw [hs]; exact nI_ge hlt (by omega)), sp_joint hs h9 hj hq, Option.bind_some, zsl _ (zj25 hl hk)]
      have ht := zR_take _ _ hk
      unfold fn_Tree_linkCount_b29
      rw [nI_add1]
      have := sp_lc hs hj hJ hl h9 n (i + 1) hlt (by omega)
      rw [ht] at this
      by_cases h1 : 14 ≤ S[i].1 ∧ S[i].1 ≤ 20
      · rw [if_pos h1] at this ⊢
        rw [if_neg (by decide), nI_add1]; exact this
      · rw [if_neg h1] at this ⊢
        rw [if_pos rfl, Int32.add_zero]; exact this
theorem sp_linkCount (h : zctree tc ts tk td tl tr to tj nd S) {J : List Nat} (hJ : S.map (fun q => q.1) = 0 :: J) (hl : zlk J) (h9 : S.length ≤ 9) : fn_Tree_linkCount ts tj = some (nI (zR J).length) := by
  unfold fn_Tree_linkCount
  exact sp_lc h.2.1 h.2.2.2 hJ hl h9 zFU 0 (Nat.zero_le _) (Nat.lt_of_le_of_lt (by omega : S.length - 0 ≤ 9) (by decide))
/-- the first sum of a link's own -/
theorem sp_sol (hs : ts = nI S.length) (hj : zrw tj (fun q => nI q.1) S) {J : List Nat} (hJ : S.map (fun q => q.1) = 0 :: J) (hl : zlk J) (h9 : S.length ≤ 9) (ln : Nat) (hln : ln < 2 ^ 31) : ∀ (n i : Nat), i ≤ S.length → S.length - i < n → (zR ((0 :: J).take i)).length ≤ ln →
    fn_Tree_sumOfLink_L4 ts tj n (nI ln) (nI (zR ((0 :: J).take i)).length) (nI i) = some (if ln < (zR J).length then nI (zpos (zR J) ln + 1) else -1)
  | 0, _, _, h, _ => absurd h (Nat.not_lt_zero _)
  | n + 1, i, hi, hn, hle => by
    have hlen : (0 :: J).length = S.length := by rw [← hJ, List.length_map]
    have hR0 : zR (0 :: J) = zR J := rfl
    unfold fn_Tree_sumOfLink_L4
    by_cases he : S.length ≤ i
    · rw [List.take_of_length_le (by omega), hR0] at hle
      rw [hs, if_pos (nI_le he (by omega)), if_neg (by omega)]
    · have hlt : i < S.length := by omega
      have hq := List.getElem?_eq_getElem hlt
      have hk := zsj hJ hq
      have hRl : (zR ((0 :: J).take i)).length ≤ 9 := Nat.le_trans (List.length_filter_le _ _) (by rw [List.length_take]; omega)
      rw [if_neg (by rw [hs]; exact nI_ge hlt (by omega)), sp_joint hs h9 hj hq, Option.bind_some, zsl _ (zj25 hl hk)]
      have ht := zR_take _ _ hk
      unfold fn_Tree_sumOfLink_b33
      rw [nI_add1]
      have hrec := sp_sol hs hj hJ hl h9 ln hln n (i + 1) hlt (by omega)
      rw [ht] at hrec
      by_cases h1 : 14 ≤ S[i].1 ∧ S[i].1 ≤ 20
      · rw [if_pos h1] at hrec ⊢
        rw [if_neg (by decide), nI_add1]
        cases i with
        | zero => simp at hk; omega
        | succ i =>
          have hk' : J[i]? = some S[i + 1].1 := by simpa using hk
          rcases zpos_all J.length J (Nat.le_refl _) hl i _ hk' with h | ⟨-, -, m, b3, b4, b5⟩
          · omega
          · have e5 : (zR ((0 :: J).take (i + 1))).length = m := by rw [List.take_succ_cons, b5]; rfl
            rw [e5] at hrec hle ⊢
            by_cases hm : m = ln
            · rw [if_pos (by rw [hm]), if_pos (by rw [← hm]; exact zgetlt b3), ← hm, b4]
            · rw [if_neg (fun h => hm ((nI_inj (by omega) hln).mp h))]
              exact hrec (by omega)
      · rw [if_neg h1] at hrec ⊢
        rw [if_pos rfl]
        exact hrec (by omega)
end LC
def zholdv (k : Nat) (a b c : Int64) : Bool := if k = 14 then decide (a = b) else if k = 15 then decide (a < b) else if k = 16 then decide (b < a) else if k = 17 then decide (a ≤ b) else if k = 18 then decide (b ≤ a) else if k = 19 then decide (a ≠ b) else decide (b ≤ a) && decide (a ≤ c)
/-- a root -/
def zrt_at (S : List (Nat × Nat)) (i : Nat) : Nat := ((S[i]?).getD (0, 0)).2
def zhold (v : Nat → Int64) (S : List (Nat × Nat)) (J : List Nat) (s : Nat) : Bool := zholdv (J.getD s 0) (v (zrt_at S s)) (v (zrt_at S (s + 1))) (v (zrt_at S (s + 2)))
section HO
variable {ts : Int32} {to tj : Nat → Int32} {nd : List (Nat × Nat × Nat × Nat)} {S : List (Nat × Nat)} {J : List Nat}
theorem zrt_of {i : Nat} {q : Nat × Nat} (h : S[i]? = some q) : zrt_at S i = q.2 := by unfold zrt_at; rw [h]; rfl
theorem zrt_lt (hr : ∀ q ∈ S, q.2 < nd.length) (h160 : nd.length ≤ 160) {i : Nat} (h : i < S.length) : ∃ q, S[i]? = some q ∧ q.2 < nd.length ∧ zrt_at S i = q.2 := ⟨S[i], List.getElem?_eq_getElem h, hr _ (List.getElem_mem h), zrt_of (List.getElem?_eq_getElem h)⟩
theorem zifI (c : Prop) [Decidable c] (b : Bool) (h : b = true ↔ ¬ c) : zwp (if c then some (0 : Int32) else some 1) (fun r => r = zb2 b) := by
  by_cases hc : c
  · refine zwp_t hc (zwp_some ?_)
    cases b with
    | true => exact absurd hc (h.mp rfl)
    | false => rfl
  · refine zwp_f hc (zwp_some ?_)
    rw [h.mpr hc]; rfl
theorem zifI' (c : Prop) [Decidable c] (b : Bool) (h : b = true ↔ c) : zwp (if c then some (1 : Int32) else some 0) (fun r => r = zb2 b) := by
  by_cases hc : c
  · refine zwp_t hc (zwp_some ?_)
    rw [h.mpr hc]; rfl
  · refine zwp_f hc (zwp_some ?_)
    cases b with
    | true => exact absurd (h.mp rfl) hc
    | false => rfl
theorem zI64le (x y : Int64) : x ≤ y ↔ ¬ y < x := by rw [Int64.le_iff_toInt_le, Int64.lt_iff_toInt_lt]; omega
/-- both sides' comparisons: six relations and a range -/
theorem zcmp6 {k : Nat} (hk : 14 ≤ k ∧ k ≤ 20) (x y z : Int64) {a7 : Option Int32} (k14 k15 k16 k17 k18 k19 : Prop) [Decidable k14] [Decidable k15] [Decidable k16] [Decidable k17] [Decidable k18] [Decidable k19]
    (e14 : k14 ↔ k = 14) (e15 : k15 ↔ k = 15) (e16 : k16 ↔ k = 16) (e17 : k17 ↔ k = 17) (e18 : k18 ↔ k = 18) (e19 : k19 ↔ k = 19) (h7 : k = 20 → zwp a7 (fun r => r = zb2 (decide (y ≤ x) && decide (x ≤ z)))) :
    zwp (if k14 then (if lg_cmp x y = 0 then some 1 else some 0) else if k15 then (if 0 ≤ lg_cmp x y then some 0 else some 1) else if k16 then (if lg_cmp x y ≤ 0 then some 0 else some 1) else if k17 then (if 0 < lg_cmp x y then some 0 else some 1) else if k18 then (if lg_cmp x y < 0 then some 0 else some 1) else if k19 then (if lg_cmp x y = 0 then some 0 else some 1) else a7) (fun r => r = zb2 (zholdv k x y z)) := by
  unfold zholdv
  by_cases h : k = 14
  · rw [if_pos (e14.mpr h), if_pos h]; exact zifI' _ _ (by rw [lg_cmp_eq, decide_eq_true_iff])
  rw [if_neg (fun h' => h (e14.mp h')), if_neg h]
  by_cases h : k = 15
  · rw [if_pos (e15.mpr h), if_pos h]; exact zifI _ _ (by rw [lg_cmp_ge, decide_eq_true_iff, zI64le, Decidable.not_not])
  rw [if_neg (fun h' => h (e15.mp h')), if_neg h]
  by_cases h : k = 16
  · rw [if_pos (e16.mpr h), if_pos h]; exact zifI _ _ (by rw [lg_cmp_le, decide_eq_true_iff, zI64le, Decidable.not_not])
  rw [if_neg (fun h' => h (e16.mp h')), if_neg h]
  by_cases h : k = 17
  · rw [if_pos (e17.mpr h), if_pos h]; exact zifI _ _ (by rw [lg_cmp_gt, decide_eq_true_iff, zI64le])
  rw [if_neg (fun h' => h (e17.mp h')), if_neg h]
  by_cases h : k = 18
  · rw [if_pos (e18.mpr h), if_pos h]; exact zifI _ _ (by rw [lg_cmp_lt, decide_eq_true_iff, zI64le])
  rw [if_neg (fun h' => h (e18.mp h')), if_neg h]
  by_cases h : k = 19
  · rw [if_pos (e19.mpr h), if_pos h]; exact zifI _ _ (by rw [lg_cmp_eq, decide_eq_true_iff])
  rw [if_neg (fun h' => h (e19.mp h')), if_neg h]
  exact h7 (by omega)
theorem zrange (x y z : Int64) {a : Option Int32} (h : zwp a (fun r => r = zb2 (decide (x ≤ z)))) : zwp (if 0 < lg_cmp y x then some 0 else a) (fun r => r = zb2 (decide (y ≤ x) && decide (x ≤ z))) := by
  have e : 0 < lg_cmp y x ↔ x < y := lg_cmp_gt y x
  by_cases hc : x < y
  · refine zwp_t (e.mpr hc) (zwp_some ?_)
    rw [decide_eq_false (fun h' => (zI64le _ _).mp h' hc)]; rfl
  · refine zwp_f (fun h' => hc (e.mp h')) (zwp_mono h fun r hr => ?_)
    rw [hr, decide_eq_true ((zI64le _ _).mpr hc), Bool.true_and]
theorem c_hold (hs : ts = nI S.length) (ho : zrw to (fun q => nI q.2) S) (hj : zrw tj (fun q => nI q.1) S) (hJ : S.map (fun q => q.1) = 0 :: J) (hl : zlk J) (h9 : S.length ≤ 9) (hr : ∀ q ∈ S, q.2 < nd.length) (h160 : nd.length ≤ 160) (v : Nat → Int64) {s k : Nat} (hk : J[s]? = some k) (h14 : 14 ≤ k ∧ k ≤ 20) :
    zwp (fn_Eval_holds v ts to tj (nI (s + 1))) (fun r => r = zb2 (zhold v S J s)) := by
  have hlen : J.length + 1 = S.length := by rw [← List.length_map (f := fun q : Nat × Nat => q.1), hJ]; rfl
  have hslt := zgetlt hk
  obtain ⟨q0, a1, a2, a3⟩ := zrt_lt hr h160 (i := s) (by omega)
  obtain ⟨q1, b1, b2, b3⟩ := zrt_lt hr h160 (i := s + 1) (by omega)
  have hq1 : q1.1 = k := by
    have := zsj hJ b1
    rw [List.getElem?_cons_succ, hk] at this
    exact (Option.some.inj this).symm
  have hJd : J.getD s 0 = k := by rw [List.getD, hk]; rfl
  unfold fn_Eval_holds zhold
  rw [hJd, a3, b3, nI_sub1, sp_root hs h9 ho a1, Option.bind_some, sp_vat v _ (by omega), Option.bind_some, sp_root hs h9 ho b1, Option.bind_some, sp_vat v _ (by omega), Option.bind_some, sp_joint hs h9 hj b1, Option.bind_some, hq1]
  have ee : ∀ m, m < 100 → (nI k = nI m ↔ k = m) := fun m hm => nI_inj (by omega) (by omega)
  refine zcmp6 h14 _ _ _ _ _ _ _ _ _ (ee 14 (by omega)) (ee 15 (by omega)) (ee 16 (by omega)) (ee 17 (by omega)) (ee 18 (by omega)) (ee 19 (by omega)) (fun h20 => zrange _ _ _ ?_)
  rcases zpos_all J.length J (Nat.le_refl _) hl s k hk with h | ⟨-, -, n, c1, c2, -⟩
  · omega
  have h21 := (zpos_at J.length J (Nat.le_refl _) hl n k c1).2.1 h20
  rw [c2] at h21
  have := zgetlt h21
  obtain ⟨q2, d1, d2, d3⟩ := zrt_lt hr h160 (i := s + 2) (by omega)
  rw [d3, nI_add1, sp_root hs h9 ho d1, Option.bind_some, sp_vat v _ (by omega), Option.bind_some]
  exact zifI _ _ (by rw [lg_cmp_gt, decide_eq_true_iff, zI64le])
theorem r_sum (mre : Nat → Int32) (hR : zrw mre (fun k => nI (zka k)) (zR J)) (h4 : (zR J).length ≤ 4) (hl : zlk J) (ln : Nat) (hln : ln ≤ (zR J).length) : ∀ (m i a : Nat), i ≤ ln → ln - i < m → (∃ pre, zR J = pre ++ (zR J).drop i ∧ pre.length = i) → a + zpos ((zR J).drop i) (ln - i) = zpos (zR J) ln →
    a ≤ 100 → fn_Ref_sumOf_L4 mre m (nI ln) (nI a) (nI i) = some (nI (zpos (zR J) ln))
  | 0, _, _, _, h, _, _, _ => absurd h (Nat.not_lt_zero _)
  | m + 1, i, a, hi, hm, hp, he, ha => by
    unfold fn_Ref_sumOf_L4 fn_Ref_sumOf_b26
    by_cases h : i = ln
    · subst h
      rw [if_pos (Int32.le_refl _)]
      rw [Nat.sub_self] at he
      have : zpos ((zR J).drop i) 0 = 0 := by cases (zR J).drop i <;> rfl
      rw [this] at he
      rw [← he]; rfl
    · have hlt : i < (zR J).length := by omega
      have hk := List.getElem?_eq_getElem hlt
      have hb : (zR J)[i] < 25 ∧ ((nI (zka (zR J)[i]) = 18) ↔ (zR J)[i] = 20) := by
        obtain ⟨-, -, h14, h20⟩ := zpos_at J.length J (Nat.le_refl _) hl i _ hk
        have : ∀ k, k < 25 → 14 ≤ k → (nI (zka k) = 18 ↔ k = 20) := by decide
        exact ⟨by omega, this _ (by omega) h14⟩
      rw [if_neg (nI_ge (by omega) (by omega)), if_neg (nI_in (by omega) (by omega)), nI_clamp (by omega), hR i _ hk, nI_add1]
      have hd : (zR J).drop i = (zR J)[i] :: (zR J).drop (i + 1) := List.drop_eq_getElem_cons hlt
      rw [hd, show ln - i = (ln - (i + 1)) + 1 by omega] at he
      have he' : a + ((if (zR J)[i] = 20 then 2 else 1) + zpos ((zR J).drop (i + 1)) (ln - (i + 1))) = zpos (zR J) ln := he
      have hpre : ∃ pre, zR J = pre ++ (zR J).drop (i + 1) ∧ pre.length = i + 1 := ⟨(zR J).take (i + 1), (List.take_append_drop _ _).symm, by rw [List.length_take]; omega⟩
      have hbound : zpos (zR J) ln ≤ 100 := by
        have : ∀ (R : List Nat) (n : Nat), zpos R n ≤ 2 * R.length := by
          intro R
          induction R with
          | nil => intro n; cases n <;> simp [zpos]
          | cons k R ih =>
            intro n
            cases n with
            | zero => simp [zpos]
            | succ n => have := ih n; simp only [zpos, List.length_cons]; split <;> omega
        have := this (zR J) ln; omega
      by_cases h20 : (zR J)[i] = 20
      · rw [if_pos (hb.2.mpr h20), show (2 : Int32) = nI 2 from rfl, nI_add]
        rw [if_pos h20] at he'
        exact r_sum mre hR h4 hl ln hln m (i + 1) (a + 2) (by omega) (by omega) hpre (by omega) (by omega)
      · rw [if_neg (fun h => h20 (hb.2.mp h)), nI_add1]
        rw [if_neg h20] at he'
        exact r_sum mre hR h4 hl ln hln m (i + 1) (a + 1) (by omega) (by omega) hpre (by omega) (by omega)
theorem r_hold (mro mre : Nat → Int32) (ho : zrw mro (fun q => nI q.2) S) (hR : zrw mre (fun k => nI (zka k)) (zR J)) (h4 : (zR J).length ≤ 4) (hJ : S.map (fun q => q.1) = 0 :: J) (hl : zlk J) (h9 : S.length ≤ 9) (hr : ∀ q ∈ S, q.2 < nd.length) (h160 : nd.length ≤ 160) (v : Nat → Int64) {n k : Nat} (hk : (zR J)[n]? = some k) :
    zwp (fn_Ref_holds v mro mre (nI n)) (fun r => r = zb2 (zhold v S J (zpos (zR J) n))) := by
  have hlen : J.length + 1 = S.length := by rw [← List.length_map (f := fun q : Nat × Nat => q.1), hJ]; rfl
  have hnlt := zgetlt hk
  obtain ⟨p1, p2, p3, p4⟩ := zpos_at J.length J (Nat.le_refl _) hl n k hk
  have hslt := zgetlt p1
  have hsum : fn_Ref_sumOf mre (nI n) = some (nI (zpos (zR J) n)) := r_sum mre hR h4 hl n (by omega) zFU 0 0 (Nat.zero_le _) (Nat.lt_of_le_of_lt (by omega : n - 0 ≤ 4) (by decide)) ⟨[], rfl, rfl⟩ (by simp) (by omega)
  have hJd : J.getD (zpos (zR J) n) 0 = k := by rw [List.getD, p1]; rfl
  unfold fn_Ref_holds zhold
  rw [hsum, Option.bind_some, hJd]
  generalize zpos (zR J) n = s at *
  obtain ⟨q0, a1, a2, a3⟩ := zrt_lt hr h160 (i := s) (by omega)
  obtain ⟨q1, b1, b2, b3⟩ := zrt_lt hr h160 (i := s + 1) (by omega)
  rw [a3, b3, nI_add1, nI_clamp (by omega : s < 2 ^ 31), nI_clamp (by omega : s + 1 < 2 ^ 31), nI_clamp (by omega : n < 2 ^ 31), ho s q0 a1, ho (s + 1) q1 b1, hR n k hk, nI_clamp (by omega : q0.2 < 2 ^ 31), nI_clamp (by omega : q1.2 < 2 ^ 31)]
  refine zwp_f (nI_in2 (by omega) (by omega)) (zwp_f (nI_in2 (by omega) (by omega)) (zwp_f (nI_in2 (by omega) (by omega)) (zwp_f (nI_in2 (by omega) (by omega)) (zwp_f (nI_in2 (by omega) (by omega)) ?_))))
  have hz := zka_v k (by omega)
  have ee : ∀ m, m < 100 → (nI (zka k) = nI m ↔ zka k = m) := fun m hm => nI_inj (by have := zka_lt k (by omega); omega) (by omega)
  have hzk : zka k = k - 2 := hz.2.2.2.2.1 ⟨p3, by omega⟩
  refine zcmp6 ⟨p3, p4⟩ _ _ _ _ _ _ _ _ _ ((ee 12 (by omega)).trans (by omega)) ((ee 13 (by omega)).trans (by omega)) ((ee 14 (by omega)).trans (by omega)) ((ee 15 (by omega)).trans (by omega)) ((ee 16 (by omega)).trans (by omega)) ((ee 17 (by omega)).trans (by omega)) (fun h20 => zrange _ _ _ ?_)
  have := zgetlt (p2 h20)
  obtain ⟨q2, d1, d2, d3⟩ := zrt_lt hr h160 (i := s + 2) (by omega)
  rw [d3, show (2 : Int32) = nI 2 from rfl, nI_add, nI_clamp (by omega : s + 2 < 2 ^ 31), ho (s + 2) q2 d1, nI_clamp (by omega : q2.2 < 2 ^ 31)]
  refine zwp_f (nI_in2 (by omega) (by omega)) (zwp_f (nI_in2 (by omega) (by omega)) ?_)
  exact zifI _ _ (by rw [lg_cmp_gt, decide_eq_true_iff, zI64le])
end HO
section EO
variable {tc ts : Int32} {tk td tl tr to tj g : Nat → Int32} {mn : Int32} {ms ml mr mw mv mro mre : Nat → Int32} {nd : List (Nat × Nat × Nat × Nat)} {S : List (Nat × Nat)} {J : List Nat}
/-- the links from place i on hold -/
def zPc (v : Nat → Int64) (S : List (Nat × Nat)) (J : List Nat) (i : Nat) : Prop := ∀ s k, i ≤ s → J[s]? = some k → 14 ≤ k → k ≤ 20 → zhold v S J s = true
def zPr (v : Nat → Int64) (S : List (Nat × Nat)) (J : List Nat) (i : Nat) : Prop := ∀ n, i ≤ n → n < (zR J).length → zhold v S J (zpos (zR J) n) = true
theorem zP_iff (v : Nat → Int64) (hl : zlk J) : zPc v S J 0 ↔ zPr v S J 0 := by
  constructor
  · intro h n _ hn
    obtain ⟨a1, -, a3, a4⟩ := zpos_at J.length J (Nat.le_refl _) hl n _ (List.getElem?_eq_getElem hn)
    exact h _ _ (Nat.zero_le _) a1 a3 a4
  · intro h s k _ hk h14 h20
    rcases zpos_all J.length J (Nat.le_refl _) hl s k hk with h1 | ⟨-, -, n, c1, c2, -⟩
    · omega
    · rw [← c2]; exact h n (Nat.zero_le _) (zgetlt c1)
theorem c_out (hs : ts = nI S.length) (ho : zrw to (fun q => nI q.2) S) (hj : zrw tj (fun q => nI q.1) S) (hJ : S.map (fun q => q.1) = 0 :: J) (hl : zlk J) (h9 : S.length ≤ 9) (hr : ∀ q ∈ S, q.2 < nd.length) (h160 : nd.length ≤ 160) (v : Nat → Int64) : ∀ (n i : Nat) (b : Bool), i ≤ J.length → J.length - i < n →
    zwp (fn_Eval_outcomeOf_L21 v ts to tj n (zb2 b) (nI (i + 1))) (fun r => (b = true ∧ zPc v S J i ∧ r = 1) ∨ (¬ (b = true ∧ zPc v S J i) ∧ r = 0))
  | 0, _, _, _, h => absurd h (Nat.not_lt_zero _)
  | n + 1, i, b, hi, hn => by
    have hlen : J.length + 1 = S.length := by rw [← List.length_map (f := fun q : Nat × Nat => q.1), hJ]; rfl
    unfold fn_Eval_outcomeOf_L21 fn_Tree_sumCount
    by_cases he : i = J.length
    · refine zwp_t (by rw [hs]; exact nI_le (by omega) (by omega)) ?_
      have hp : zPc v S J i := fun s k h1 h2 => by have := zgetlt h2; omega
      cases b with
      | true => exact zwp_f (by decide) (zwp_some (Or.inl ⟨rfl, hp, rfl⟩))
      | false => exact zwp_t (by decide) (zwp_some (Or.inr ⟨fun h => (by cases h.1), rfl⟩))
    · have hlt : i < J.length := by omega
      refine zwp_f (by rw [hs]; exact nI_ge (by omega) (by omega)) ?_
      unfold fn_Eval_outcomeOf_b57 fn_Eval_outcomeOf_b53 fn_Eval_outcomeOf_b58
      rw [nI_add1]
      have hnx := fun b' => c_out hs ho hj hJ hl h9 hr h160 v n (i + 1) b' (by omega) (by omega)
      have hk := List.getElem?_eq_getElem hlt
      have hsplit : zPc v S J i ↔ (14 ≤ J[i] → J[i] ≤ 20 → zhold v S J i = true) ∧ zPc v S J (i + 1) := by
        constructor
        · intro h; exact ⟨fun h1 h2 => h i _ (Nat.le_refl _) hk h1 h2, fun s k h1 => h s k (by omega)⟩
        · rintro ⟨h1, h2⟩ s k h3 h4 h5 h6
          rcases Nat.eq_or_lt_of_le h3 with h7 | h7
          · subst h7
            rw [hk] at h4; cases h4
            exact h1 h5 h6
          · exact h2 s k h7 h4 h5 h6
      cases b with
      | false =>
        refine zwp_t (by decide) (zwp_mono (hnx false) fun r hr => ?_)
        rcases hr with ⟨h, -⟩ | ⟨-, h⟩
        · cases h
        · exact Or.inr ⟨fun h => (by cases h.1), h⟩
      | true =>
        refine zwp_f (by decide) ?_
        have hslt : i + 1 < S.length := by omega
        have hq := List.getElem?_eq_getElem hslt
        have hq1 : S[i + 1].1 = J[i] := by
          have := zsj hJ hq
          rw [List.getElem?_cons_succ, hk] at this
          exact (Option.some.inj this).symm
        have hJk := zlk_lt J.length J (Nat.le_refl _) hl J[i] (List.getElem_mem hlt)
        rw [sp_joint hs h9 hj hq, Option.bind_some, hq1, zsl _ (by omega)]
        by_cases h20 : 14 ≤ J[i] ∧ J[i] ≤ 20
        · rw [if_pos h20]
          refine zwp_f (by decide) (zwp_seq (c_hold hs ho hj hJ hl h9 hr h160 v hk h20) (fun r hr' => ?_))
          rw [hr']
          cases hz : zhold v S J i with
          | true =>
            refine zwp_f (by decide) (zwp_mono (hnx true) fun r hr => ?_)
            rcases hr with ⟨-, h, h'⟩ | ⟨h, h'⟩
            · exact Or.inl ⟨rfl, hsplit.mpr ⟨fun _ _ => hz, h⟩, h'⟩
            · exact Or.inr ⟨fun h2 => h ⟨rfl, (hsplit.mp h2.2).2⟩, h'⟩
          | false =>
            refine zwp_t rfl (zwp_mono (hnx false) fun r hr => ?_)
            rcases hr with ⟨h, -⟩ | ⟨-, h'⟩
            · cases h
            · exact Or.inr ⟨fun h2 => (by have := (hsplit.mp h2.2).1 h20.1 h20.2; rw [hz] at this; cases this), h'⟩
        · rw [if_neg h20]
          refine zwp_t rfl (zwp_mono (hnx true) fun r hr => ?_)
          rcases hr with ⟨-, h, h'⟩ | ⟨h, h'⟩
          · exact Or.inl ⟨rfl, hsplit.mpr ⟨fun h1 h2 => absurd ⟨h1, h2⟩ h20, h⟩, h'⟩
          · exact Or.inr ⟨fun h2 => h ⟨rfl, (hsplit.mp h2.2).2⟩, h'⟩
theorem r_out (ho : zrw mro (fun q => nI q.2) S) (hR : zrw mre (fun k => nI (zka k)) (zR J)) (h4 : (zR J).length ≤ 4) (hJ : S.map (fun q => q.1) = 0 :: J) (hl : zlk J) (h9 : S.length ≤ 9) (hr : ∀ q ∈ S, q.2 < nd.length) (h160 : nd.length ≤ 160) (v row : Nat → Int64) (a : Int32) (b c d e f : Nat → Int32) (st : Int32) : ∀ (n i : Nat) (o : Int64), i ≤ (zR J).length → (zR J).length - i < n →
    zwp (fn_Ref_evaluate_L80 a (nI (zR J).length) b c d e f mro mre n st o v row (nI i)) (fun r => r.1 = st ∧ r.2.2.1 = v ∧ ((zPr v S J i ∧ r.2.1 = o) ∨ (¬ zPr v S J i ∧ r.2.1 = 0)))
  | 0, _, _, _, h => absurd h (Nat.not_lt_zero _)
  | n + 1, i, o, hi, hn => by
    unfold fn_Ref_evaluate_L80 fn_Ref_evaluate_b105
    by_cases he : i = (zR J).length
    · refine zwp_t (nI_le (by omega) (by omega)) (zwp_some ⟨rfl, rfl, Or.inl ⟨fun n h1 h2 => by omega, rfl⟩⟩)
    · have hlt : i < (zR J).length := by omega
      refine zwp_f (nI_ge hlt (by omega)) ?_
      have hk := List.getElem?_eq_getElem hlt
      rw [nI_add1]
      refine zwp_seq (r_hold (nd := nd) mro mre ho hR h4 hJ hl h9 hr h160 v hk) (fun r hr' => ?_)
      rw [hr']
      have hnx := fun o' => r_out ho hR h4 hJ hl h9 hr h160 v row a b c d e f st n (i + 1) o' (by omega) (by omega)
      have hsplit : zPr v S J i ↔ (zhold v S J (zpos (zR J) i) = true) ∧ zPr v S J (i + 1) := by
        constructor
        · intro h; exact ⟨h i (Nat.le_refl _) hlt, fun n h1 => h n (by omega)⟩
        · rintro ⟨h1, h2⟩ n h3 h4
          rcases Nat.eq_or_lt_of_le h3 with h7 | h7
          · subst h7; exact h1
          · exact h2 n h7 h4
      cases hz : zhold v S J (zpos (zR J) i) with
      | true =>
        refine zwp_f (by decide) (zwp_mono (hnx o) fun r hr => ⟨hr.1, hr.2.1, ?_⟩)
        rcases hr.2.2 with ⟨h, h'⟩ | ⟨h, h'⟩
        · exact Or.inl ⟨hsplit.mpr ⟨hz, h⟩, h'⟩
        · exact Or.inr ⟨fun h2 => h (hsplit.mp h2).2, h'⟩
      | false =>
        refine zwp_t rfl (zwp_mono (hnx 0) fun r hr => ⟨hr.1, hr.2.1, ?_⟩)
        refine Or.inr ⟨fun h2 => (by have := (hsplit.mp h2).1; rw [hz] at this; cases this), ?_⟩
        rcases hr.2.2 with ⟨h, h'⟩ | ⟨h, h'⟩
        · exact h'
        · exact h'
theorem zhold_eq {v v' : Nat → Int64} (h160 : nd.length ≤ 160) (hne : 0 < nd.length) (hr : ∀ q ∈ S, q.2 < nd.length) (hv : ∀ j, j < nd.length → v j = v' j) (s : Nat) : zhold v S J s = zhold v' S J s := by
  have : ∀ i, v (zrt_at S i) = v' (zrt_at S i) := by
    intro i
    unfold zrt_at
    cases h : S[i]? with
    | none => exact hv 0 hne
    | some q => exact hv q.2 (hr q (List.mem_of_getElem? h))
  unfold zhold
  rw [this, this, this]
/-- an evaluation's end: status, outcome, values -/
theorem t_eval (hc : zctree tc ts tk td tl tr to tj nd S) (hr : zrt mn ms ml mr mw nd) (hro : zrw mro (fun q => nI q.2) S) (hre : zrw mre (fun k => nI (zka k)) (zR J)) (hok : znok nd) (hJ : S.map (fun q => q.1) = 0 :: J) (hl : zlk J) (h9 : S.length ≤ 9) (hrt : ∀ q ∈ S, q.2 < nd.length) (h4 : (zR J).length ≤ 4) (hg : ∀ j, j < 26 → g j = mv j) (oc : Int64) :
    ∀ (n i : Nat) (s : Int32) (v r d row : Nat → Int64), i ≤ nd.length → nd.length - i < n → (s = 0 → ∀ j, j < i → v j = r j) →
    zw2 (fn_Eval_evaluate_L21 tc tk td tl tr g n s v d (nI nd.length) (nI i)) (fn_Ref_evaluate_L7 mn (nI (zR J).length) mv ms ml mr mw mro mre n s oc r row (nI i))
      (fun a b => a.1 = b.1 ∧ a.2.1 = a.1 ∧ (a.1 = 0 → fn_Eval_outcomeOf a.2.2.1 ts to tj = some b.2.1 ∧ ∀ j, j < nd.length → a.2.2.1 j = b.2.2.1 j) ∧ (a.1 ≠ 0 → b.2.1 = 0))
  | 0, _, _, _, _, _, _, _, h, _ => absurd h (Nat.not_lt_zero _)
  | n + 1, i, s, v, r, d, row, hi, hn, hv => by
    have h160 := hc.1.2.1
    have hfin : (s = 0 → ∀ j, j < nd.length → v j = r j) → zw2 (some (s, s, v, d)) (fn_Ref_evaluate_b39 mn (nI (zR J).length) mv ms ml mr mw mro mre s oc r row) (fun a b => a.1 = b.1 ∧ a.2.1 = a.1 ∧ (a.1 = 0 → fn_Eval_outcomeOf a.2.2.1 ts to tj = some b.2.1 ∧ ∀ j, j < nd.length → a.2.2.1 j = b.2.2.1 j) ∧ (a.1 ≠ 0 → b.2.1 = 0)) := by
      intro hv
      unfold fn_Ref_evaluate_b39 fn_Ref_evaluate_b75
      by_cases h0 : s = 0
      · subst h0
        have hv := hv rfl
        have hS0 : 0 < S.length := by
          have := congrArg List.length hJ
          rw [List.length_map, List.length_cons] at this; omega
        obtain ⟨q0, a1, a2, a3⟩ := zrt_lt hrt h160 hS0
        have hlc := sp_linkCount hc hJ hl h9
        have hE : ∀ o : Int64, (zR J).length = 0 → o = r q0.2 → zw2 (some ((0 : Int32), (0 : Int32), v, d)) (fn_Ref_evaluate_L80 mn (nI (zR J).length) mv ms ml mr mw mro mre zFU 0 o r row 0) (fun a b => a.1 = b.1 ∧ a.2.1 = a.1 ∧ (a.1 = 0 → fn_Eval_outcomeOf a.2.2.1 ts to tj = some b.2.1 ∧ ∀ j, j < nd.length → a.2.2.1 j = b.2.2.1 j) ∧ (a.1 ≠ 0 → b.2.1 = 0)) := by
          intro o hz e
          have := r_out (nd := nd) (row := row) hro hre h4 hJ hl h9 hrt h160 r mn mv ms ml mr mw 0 zFU 0 o (Nat.zero_le _) (Nat.lt_of_le_of_lt (by omega : (zR J).length - 0 ≤ 4) (by decide))
          refine zw2_i (P := fun a => a = ((0 : Int32), (0 : Int32), v, d)) (zwp_some rfl) this fun a b ha hb => ?_
          subst ha
          refine ⟨hb.1.symm, rfl, fun _ => ⟨?_, by rw [hb.2.1]; exact hv⟩, fun h => absurd rfl h⟩
          have hb2 : b.2.1 = o := by
            rcases hb.2.2 with ⟨_, h⟩ | ⟨h, _⟩
            · exact h
            · exact absurd (fun n h1 h2 => by omega) h
          rw [hb2, e]
          unfold fn_Eval_outcomeOf
          rw [hlc, Option.bind_some, hz, if_pos (show nI 0 = 0 from rfl), show (0 : Int32) = nI 0 from rfl, sp_root hc.2.1 h9 hc.2.2.1 a1, Option.bind_some, sp_vat v _ (by omega), Option.bind_some, hv _ a2]
        have hN : (zR J).length ≠ 0 → zw2 (some ((0 : Int32), (0 : Int32), v, d)) (fn_Ref_evaluate_L80 mn (nI (zR J).length) mv ms ml mr mw mro mre zFU 0 1 r row 0) (fun a b => a.1 = b.1 ∧ a.2.1 = a.1 ∧ (a.1 = 0 → fn_Eval_outcomeOf a.2.2.1 ts to tj = some b.2.1 ∧ ∀ j, j < nd.length → a.2.2.1 j = b.2.2.1 j) ∧ (a.1 ≠ 0 → b.2.1 = 0)) := by
          intro hz
          have h1 := r_out (nd := nd) (row := row) hro hre h4 hJ hl h9 hrt h160 r mn mv ms ml mr mw 0 zFU 0 1 (Nat.zero_le _) (Nat.lt_of_le_of_lt (by omega : (zR J).length - 0 ≤ 4) (by decide))
          have hlen : J.length + 1 = S.length := by rw [← List.length_map (f := fun q : Nat × Nat => q.1), hJ]; rfl
          have h2 := c_out (nd := nd) hc.2.1 hc.2.2.1 hc.2.2.2 hJ hl h9 hrt h160 v zFU 0 true (Nat.zero_le _) (Nat.lt_of_le_of_lt (by omega : J.length - 0 ≤ 9) (by decide))
          refine zw2_i (P := fun a => a = ((0 : Int32), (0 : Int32), v, d)) (zwp_some rfl) h1 fun a b ha hb => ?_
          subst ha
          refine ⟨hb.1.symm, rfl, fun _ => ⟨?_, by rw [hb.2.1]; exact hv⟩, fun h => absurd rfl h⟩
          unfold fn_Eval_outcomeOf
          rw [hlc, Option.bind_some, if_neg (nI_ne0 (Nat.pos_of_ne_zero hz) (by omega))]
          obtain ⟨o, e1, e2⟩ := h2
          have e1' : fn_Eval_outcomeOf_L21 v ts to tj zFU 1 1 = some o := e1
          rw [e1']
          have hne : 0 < nd.length := by omega
          have hiff : zPc v S J 0 ↔ zPr r S J 0 := by
            rw [zP_iff v hl]
            unfold zPr
            constructor
            · intro h n h1 h2; rw [← zhold_eq h160 hne hrt hv]; exact h n h1 h2
            · intro h n h1 h2; rw [zhold_eq h160 hne hrt hv]; exact h n h1 h2
          rcases e2 with ⟨-, h, rfl⟩ | ⟨h, rfl⟩
          · rcases hb.2.2 with ⟨_, h'⟩ | ⟨h', _⟩
            · rw [h']
            · exact absurd (hiff.mp h) h'
          · rcases hb.2.2 with ⟨h', _⟩ | ⟨_, h'⟩
            · exact absurd ⟨rfl, hiff.mpr h'⟩ h
            · rw [h']
        rw [if_pos rfl]
        by_cases hz : (zR J).length = 0
        · rw [if_pos (by rw [hz]; rfl), if_neg (by decide)]
          have e0 : (0 : Int32).toNatClampNeg = 0 := by decide
          rw [e0, hro 0 q0 a1, if_neg (nI_in (by omega) (by omega)), nI_clamp (by omega)]
          exact hE _ hz rfl
        · rw [if_neg (nI_ne0 (Nat.pos_of_ne_zero hz) (by omega))]
          exact hN hz
      · rw [if_neg h0]
        exact zw2_some ⟨rfl, rfl, fun h => absurd h h0, fun _ => rfl⟩
    unfold fn_Eval_evaluate_L21 fn_Ref_evaluate_L7
    have hmn := hr.1
    by_cases he : i = nd.length
    · rw [if_pos (nI_le (by omega) (by omega)), if_pos (show mn ≤ nI i from by rw [hmn]; exact nI_le (by omega) (by omega))]
      exact hfin (fun e j hj => hv e j (by omega))
    · have hlt : i < nd.length := by omega
      rw [if_neg (nI_ge hlt (by omega)), if_neg (show ¬ mn ≤ nI i from by rw [hmn]; exact nI_ge hlt (by omega))]
      by_cases h0 : s = 0
      · subst h0
        rw [if_pos rfl, if_pos rfl]
        have hq := List.getElem?_eq_getElem hlt
        refine zw2_seq (t_node hc.1 hr hq (hok i _ hq) v r d row (hv rfl) hg) (fun a b hab => ?_)
        rw [if_neg (nI_in (by omega) (by omega)), if_neg (nI_in (by omega) (by omega)), nI_clamp (by omega), nI_add1, ← hab.1]
        refine t_eval hc hr hro hre hok hJ hl h9 hrt h4 hg oc n (i + 1) _ _ _ _ _ (by omega) (by omega) (fun e j hj => ?_)
        unfold vp_updL
        by_cases hji : j = i
        · rw [if_pos hji, if_pos hji]; exact hab.2 e
        · rw [if_neg hji, if_neg hji]; exact hv rfl j (by omega)
      · rw [if_neg h0, if_neg h0]
        exact hfin (fun e => absurd e h0)
end EO
/-! What is built is good. -/
def ztd (q : Nat × Nat × Nat) : Prop := (q.1 = 1 → q.2.1 < 1000000) ∧ (q.1 = 2 → q.2.1 < 26)
theorem zval6 (s : List Nat) : ∀ (n a : Nat), 6 ≤ n → zval n a s = a := by
  induction s with
  | nil => intro n a _; rfl
  | cons c t ih =>
    intro n a hn
    unfold zval
    split
    · rw [if_neg (by omega)]; exact ih (n + 1) a (by omega)
    · rfl
theorem zval_lt : ∀ (s : List Nat) (n a : Nat), n ≤ 6 → a < 10 ^ n → zval n a s < 1000000
  | [], n, a, hn, ha => Nat.lt_of_lt_of_le ha (Nat.pow_le_pow_right (n := 10) (by omega) hn)
  | c :: t, n, a, hn, ha => by
    unfold zval
    split
    · rename_i hd
      split
      · rename_i h6
        refine zval_lt t (n + 1) _ (by omega) ?_
        have := zdg_iff.mp hd
        rw [Nat.pow_succ]; omega
      · have e : n = 6 := by omega
        subst e
        rw [zval6 t (6 + 1) a (by omega)]; exact ha
    · exact Nat.lt_of_lt_of_le ha (Nat.pow_le_pow_right (n := 10) (by omega) hn)
theorem ztok_td {c : Nat} {t : List Nat} (h : ∀ x ∈ c :: t, x < 127) (p : Nat) : ztd ((ztok (c :: t)).1, (ztok (c :: t)).2.1, p) := by
  have hc := h c (by simp)
  have ht : t.getD 0 0 < 127 := by
    cases t with
    | nil => exact (by decide : 0 < 127)
    | cons d u => exact h d (by simp)
  by_cases h0 : zdg c = true
  · rw [ztok_d h0]
    refine ⟨fun _ => zval_lt _ 0 0 (by omega) (by decide), fun h => ?_⟩
    dsimp only at h; split at h <;> cases h
  · by_cases h1 : 97 ≤ c ∧ c ≤ 122
    · by_cases h2 : zfun (c :: t) = 0
      · rw [ztok_v h0 h1 h2]; exact ⟨fun h => (by cases h), fun _ => by show c - 97 < 26; omega⟩
      · rw [ztok_f h0 h1 h2]
        have := (zfun_lt (c :: t)).2 h2
        exact ⟨fun h => by show (0 : Nat) < 1000000; omega, fun h => by show (0 : Nat) < 26; omega⟩
    · by_cases h2 : zpair c (t.getD 0 0) = 0
      · rw [ztok_s h0 h1 h2]; exact ⟨fun h => by show (0 : Nat) < 1000000; omega, fun h => by show (0 : Nat) < 26; omega⟩
      · rw [ztok_p h0 h1 h2]; exact ⟨fun h => by show (0 : Nat) < 1000000; omega, fun h => by show (0 : Nat) < 26; omega⟩
theorem ztoks_td : ∀ (f p : Nat) (s : List Nat), (∀ c ∈ s, c < 127) → ∀ q ∈ ztoks f p s, ztd q
  | 0, _, _, _ => by simp [ztoks]
  | f + 1, p, [], _ => by simp [ztoks]
  | f + 1, p, c :: t, h => by
    unfold ztoks
    split
    · exact ztoks_td f (p + 1) t (fun x hx => h x (by simp [hx]))
    · intro q hq
      rcases List.mem_cons.mp hq with rfl | hq
      · exact ztok_td h p
      · exact ztoks_td f _ _ (fun x hx => h x (List.mem_of_mem_drop hx)) q hq
/-- nodes, operands, operators and sums are good -/
def zgd (nd : List (Nat × Nat × Nat × Nat)) (D : List Nat) (O S : List (Nat × Nat)) : Prop := znok nd ∧ (∀ a ∈ D, a < nd.length) ∧ (∀ q ∈ O, 3 ≤ q.1 ∧ q.1 ≤ 6 → q.2 ≤ 3) ∧ (∀ q ∈ S, q.2 < nd.length)
theorem znok_push {nd : List (Nat × Nat × Nat × Nat)} {a : Nat × Nat × Nat × Nat} (h : znok nd) (ha : znk nd.length a) : znok (nd ++ [a]) := by
  intro i q hi
  rw [List.getElem?_append] at hi
  split at hi
  · exact h i q hi
  · rename_i hge
    have h2 : i = nd.length := by
      rcases Nat.lt_or_ge (i - nd.length) 1 with h3 | h3
      · omega
      · rw [List.getElem?_eq_none (by simpa using h3)] at hi; cases hi
    subst h2
    simp at hi; subst hi; exact ha
theorem zgetD_mem {D : List Nat} {i : Nat} (h : i < D.length) : D.getD i 0 ∈ D := by
  rw [List.getD, List.getElem?_eq_getElem h]; exact List.getElem_mem h
section GP
variable {t w : Bool} {σ σ' : Nat × Nat × Nat × Nat × Nat} {i k d : Nat} {nd : List (Nat × Nat × Nat × Nat)} {D : List Nat} {O S : List (Nat × Nat)} {j : Nat}
theorem zgd_ap {q : Nat × Nat} (h : zgd nd D (q :: O) S) (hq : 3 ≤ q.1 ∧ q.1 ≤ 13) (hD : zbb q.1 + 1 ≤ D.length) : zgd (zap q nd D).1 (zap q nd D).2 O S := by
  obtain ⟨h1, h2, h3, h4⟩ := h
  unfold zap
  unfold zbb at hD
  by_cases hb : 7 ≤ q.1 ∧ q.1 ≤ 12
  · rw [if_pos hb] at hD ⊢
    have m0 := h2 _ (zgetD_mem (D := D) (i := 0) (by omega))
    have m1 := h2 _ (zgetD_mem (D := D) (i := 1) (by omega))
    refine ⟨znok_push h1 (Or.inr (Or.inr (Or.inr (Or.inl ⟨hb.1, hb.2, m1, m0⟩)))), fun a ha => ?_, fun u hu => h3 u (List.mem_cons_of_mem _ hu), fun u hu => ?_⟩
    · rw [List.length_append]
      rcases List.mem_cons.mp ha with rfl | ha
      · simp
      · have := h2 a (List.mem_of_mem_drop ha); simp; omega
    · rw [List.length_append]; have := h4 u hu; simp; omega
  · rw [if_neg hb] at hD ⊢
    have m0 := h2 _ (zgetD_mem (D := D) (i := 0) (by omega))
    have hk : znk nd.length (q.1, q.2, D.getD 0 0, 0) := by
      rcases Nat.lt_or_ge q.1 7 with h7 | h7
      · exact Or.inr (Or.inr (Or.inl ⟨hq.1, by show q.1 ≤ 6; omega, h3 q (List.mem_cons_self ..) ⟨hq.1, by omega⟩, m0⟩))
      · exact Or.inr (Or.inr (Or.inr (Or.inr ⟨by show q.1 = 13; omega, m0⟩)))
    refine ⟨znok_push h1 hk, fun a ha => ?_, fun u hu => h3 u (List.mem_cons_of_mem _ hu), fun u hu => ?_⟩
    · rw [List.length_append]
      rcases List.mem_cons.mp ha with rfl | ha
      · simp
      · have := h2 a (List.mem_of_mem_drop ha); simp; omega
    · rw [List.length_append]; have := h4 u hu; simp; omega
theorem zgd_down (m : Nat) (hm : 1 ≤ m) : ∀ (O : List (Nat × Nat)) (nd : List (Nat × Nat × Nat × Nat)) (D : List Nat), zgd nd D O S → zbn O < D.length → (∀ q ∈ O, zwk q.1) → zgd (zdown (zlev t w) m O nd D).1 (zdown (zlev t w) m O nd D).2.1 (zdown (zlev t w) m O nd D).2.2 S
  | [], nd, D, h, _, _ => h
  | q :: O, nd, D, h, hb, hk => by
    unfold zdown
    by_cases hl : m ≤ zlev t w q.1
    · rw [if_pos hl]
      have hz := hk q (by simp)
      have hne := (zlev_1 (t := t) (w := w) hz).mp (by omega)
      have hb' : zbn O + zbb q.1 < D.length := hb
      have hq13 : 3 ≤ q.1 ∧ q.1 ≤ 13 := by unfold zwk at hz; omega
      obtain ⟨g1, g2⟩ := zap_len q nd D
      have g2 := g2 (by omega)
      exact zgd_down m hm O _ _ (zgd_ap h hq13 (by omega)) (by omega) (fun u hu => hk u (by simp [hu]))
    · rw [if_neg hl]; exact h
theorem zgd_step (h : zinv σ i nd D O S) (hg : zgd nd D O S) (hz : zsy σ k = some σ') (hk : k < 25) (hd1 : k = 1 → d < 1000000) (hd2 : k = 2 → d < 26) :
    zgd (ztk t w (decide (σ.1 = 3)) k d nd D O S j).1 (ztk t w (decide (σ.1 = 3)) k d nd D O S j).2.1 (ztk t w (decide (σ.1 = 3)) k d nd D O S j).2.2.1 (ztk t w (decide (σ.1 = 3)) k d nd D O S j).2.2.2.1 := by
  obtain ⟨g1, g2, g3, g4, g5, g6, g7, g8, g9⟩ := h
  have hJ : zgd (zjux t w (decide (σ.1 = 3)) k nd D O).1 (zjux t w (decide (σ.1 = 3)) k nd D O).2.1 (zjux t w (decide (σ.1 = 3)) k nd D O).2.2 S := by
    unfold zjux
    by_cases h3 : σ.1 = 3 ∧ (1 ≤ k ∧ k ≤ 6 ∨ k = 22)
    · rw [if_pos ⟨decide_eq_true h3.1, h3.2⟩]
      rw [if_pos h3.1] at g2
      obtain ⟨a1, a2, a3, a4⟩ := zgd_down (t := t) (w := w) 4 (by omega) O nd D hg (by omega) g5
      refine ⟨a1, a2, fun q hq => ?_, a4⟩
      rcases List.mem_cons.mp hq with rfl | hq
      · intro h; exact absurd h.2 (by decide)
      · exact a3 q hq
    · rw [if_neg (fun h' => h3 ⟨of_decide_eq_true h'.1, h'.2⟩)]; exact hg
  have hne : ∀ (q : Nat × Nat) {nd D O}, q.2 ≤ 3 → zgd nd D O S → zgd nd D (q :: O) S := fun q {nd D O} hq h => ⟨h.1, h.2.1, fun u hu => by
    rcases List.mem_cons.mp hu with rfl | hu
    · exact fun _ => hq
    · exact h.2.2.1 u hu, h.2.2.2⟩
  obtain ⟨st, dp, l, p, o⟩ := σ
  dsimp only at g2 g6 g7 hJ ⊢
  unfold ztk
  rcases zsy_cases hz with ⟨h1, rfl⟩ | ⟨h1, rfl⟩ | ⟨h1, rfl⟩ | ⟨h1, h2, h3, rfl⟩ | ⟨h1, h2, rfl⟩ | ⟨h1, h2, rfl⟩ | ⟨h1, h2, h3, rfl⟩ | ⟨h1, h2, h3, h4, rfl⟩ | ⟨h1, h2, h3, h4, h5, rfl⟩
  · rw [z0_a (by omega)]
    generalize zjux t w (decide (st = 3)) k nd D O = r at *
    obtain ⟨a1, a2, a3, a4⟩ := hJ
    have hn : znk r.1.length (k, d, 0, 0) := by
      rcases (by omega : k = 1 ∨ k = 2) with h | h
      · exact Or.inl ⟨h, hd1 h⟩
      · exact Or.inr (Or.inl ⟨h, hd2 h⟩)
    refine ⟨znok_push a1 hn, fun a ha => ?_, a3, fun u hu => ?_⟩
    · rw [List.length_append]
      rcases List.mem_cons.mp ha with rfl | ha
      · simp
      · have := a2 a ha; simp; omega
    · rw [List.length_append]; have := a4 u hu; simp; omega
  · rw [z0_b (by omega)]; exact hne _ (Nat.zero_le _) hJ
  · rw [z0_b (by omega)]; exact hne _ (Nat.zero_le _) hJ
  · rw [z0_c h1, zjux_no (by omega)]
    obtain ⟨k', O', e, e1, e2⟩ := g7 h2
    subst e
    refine ⟨hg.1, hg.2.1, fun q hq => ?_, hg.2.2.2⟩
    rcases List.mem_cons.mp hq with rfl | hq
    · intro _; show p + 1 ≤ 3; omega
    · exact hg.2.2.1 q (List.mem_cons_of_mem _ hq)
  · rw [z0_d h1 (by simp [h2])]; exact hne _ (Nat.zero_le _) hJ
  · rw [z0_e h1 (by simp [h2]), zjux_no (by omega)]
    rw [if_pos h2] at g2
    have hc : 1 ≤ zcom k := by unfold zcom; repeat' split
                               all_goals omega
    exact hne _ (Nat.zero_le _) (zgd_down (t := t) (w := w) _ hc O nd D hg (by omega) g5)
  · rw [z0_f h1, zjux_no (by omega)]
    rw [if_pos h2] at g2
    obtain ⟨a1, a2, a3, a4⟩ := zgd_down (t := t) (w := w) 1 (by omega) O nd D hg (by omega) g5
    exact ⟨a1, a2, fun q hq => a3 q (List.mem_of_mem_drop hq), a4⟩
  all_goals
    rw [z0_g (by omega), zjux_no (by omega)]
    rw [if_pos h2] at g2
    obtain ⟨a1, a2, a3, a4⟩ := zgd_down (t := t) (w := w) 1 (by omega) O nd D hg (by omega) g5
    obtain ⟨b1, b2, -⟩ := zinv_down (t := t) (w := w) 1 (by omega) g2 g3 g5
    refine ⟨a1, fun a ha => a2 a (List.mem_of_mem_drop ha), a3, fun u hu => ?_⟩
    rcases List.mem_append.mp hu with hu | hu
    · exact a4 u hu
    · rw [List.mem_singleton] at hu; subst hu
      exact a2 _ (zgetD_mem (by omega))
/-- sums' first tokens so far -/
def zjn (σ : Nat × Nat × Nat × Nat × Nat) (S : List (Nat × Nat)) (j : Nat) : Prop := ∃ J, S.map (fun q => q.1) ++ [j] = 0 :: J ∧ (σ.2.2.2.2 = 0 → zlk J) ∧ (σ.2.2.2.2 = 1 → ∃ J0, J = J0 ++ [20] ∧ zlk J0)
theorem zjn_push {j r k : Nat} {S : List (Nat × Nat)} : (S ++ [(j, r)]).map (fun q => q.1) ++ [k] = (S.map (fun q => q.1) ++ [j]) ++ [k] := by rw [List.map_append]; rfl
theorem zjn_step (h : zjn σ S j) (hz : zsy σ k = some σ') (ho : σ.2.2.2.2 ≤ 1) : zjn σ' (ztk t w (decide (σ.1 = 3)) k d nd D O S j).2.2.2.1 (ztk t w (decide (σ.1 = 3)) k d nd D O S j).2.2.2.2 := by
  obtain ⟨J, h1, h2, h3⟩ := h
  obtain ⟨st, dp, l, p, o⟩ := σ
  dsimp only at h2 h3 ho ⊢
  unfold ztk
  rcases zsy_cases hz with ⟨g1, rfl⟩ | ⟨g1, rfl⟩ | ⟨g1, rfl⟩ | ⟨g1, g2, g3, rfl⟩ | ⟨g1, g2, rfl⟩ | ⟨g1, g2, rfl⟩ | ⟨g1, g2, g3, rfl⟩ | ⟨g1, g2, g3, g4, rfl⟩ | ⟨g1, g2, g3, g4, g5, rfl⟩
  · rw [z0_a (by omega)]; exact ⟨J, h1, h2, h3⟩
  · rw [z0_b (by omega)]; exact ⟨J, h1, h2, h3⟩
  · rw [z0_b (by omega)]; exact ⟨J, h1, h2, h3⟩
  · rw [z0_c g1]; exact ⟨J, h1, h2, h3⟩
  · rw [z0_d g1 (by simp [g2])]; exact ⟨J, h1, h2, h3⟩
  · rw [z0_e g1 (by simp [g2])]; exact ⟨J, h1, h2, h3⟩
  · rw [z0_f g1]; exact ⟨J, h1, h2, h3⟩
  · rw [z0_g (by omega)]
    obtain ⟨J0, e, hJ0⟩ := h3 g4
    refine ⟨J ++ [k], by rw [zjn_push, h1]; rfl, fun _ => ?_, fun h => (by cases h)⟩
    rw [e, g1, List.append_assoc]
    exact zlk_snoc J0.length J0 [20, 21] (Nat.le_refl _) hJ0 (Or.inr ⟨rfl, rfl, trivial⟩)
  · rw [z0_g (by omega)]
    have hJ := h2 (by omega)
    refine ⟨J ++ [k], by rw [zjn_push, h1]; rfl, fun h => ?_, fun h => ?_⟩
    · dsimp only at h
      refine zlk_snoc J.length J [k] (Nat.le_refl _) hJ ⟨g1.1, ?_⟩
      split at h
      · cases h
      · omega
    · dsimp only at h
      split at h
      · rename_i e; exact ⟨J, by rw [e], hJ⟩
      · cases h
end GP
theorem zinw_step' {t w : Bool} {σ σ' : Nat × Nat × Nat × Nat × Nat} {i k d : Nat} {nd : List (Nat × Nat × Nat × Nat)} {D : List Nat} {O S : List (Nat × Nat)} {j : Nat} (h : zinv σ i nd D O S) (hw : zinw false σ O S j) (hz : zsy σ k = some σ') (hk : k < 25) :
    zinw false σ' (ztk t w (decide (σ.1 = 3)) k d nd D O S j).2.2.1 (ztk t w (decide (σ.1 = 3)) k d nd D O S j).2.2.2.1 (ztk t w (decide (σ.1 = 3)) k d nd D O S j).2.2.2.2 := by
  obtain ⟨-, w2, w3⟩ := hw
  obtain ⟨st, dp, l, p, o⟩ := σ
  dsimp only at w2 w3 ⊢
  unfold ztk
  rcases zsy_cases hz with ⟨h1, rfl⟩ | ⟨h1, rfl⟩ | ⟨h1, rfl⟩ | ⟨h1, h2, h3, rfl⟩ | ⟨h1, h2, rfl⟩ | ⟨h1, h2, rfl⟩ | ⟨h1, h2, h3, rfl⟩ | ⟨h1, h2, h3, h4, rfl⟩ | ⟨h1, h2, h3, h4, h5, rfl⟩
  · rw [z0_a (by omega)]; exact ⟨fun h => (by cases h), w2, w3⟩
  · rw [z0_b (by omega)]; exact ⟨fun h => (by cases h), w2, w3⟩
  · rw [z0_b (by omega)]; exact ⟨fun h => (by cases h), w2, w3⟩
  · rw [z0_c h1]; exact ⟨fun h => (by cases h), w2, w3⟩
  · rw [z0_d h1 (by simp [h2])]; exact ⟨fun h => (by cases h), w2, w3⟩
  · rw [z0_e h1 (by simp [h2])]; exact ⟨fun h => (by cases h), w2, w3⟩
  · rw [z0_f h1]; exact ⟨fun h => (by cases h), w2, w3⟩
  · rw [z0_g (by omega)]
    refine ⟨fun h => (by cases h), ?_, fun h => (by cases h)⟩
    dsimp only
    rw [zrels_push, if_neg (by omega), List.append_nil]; exact w2
  · rw [z0_g (by omega)]
    refine ⟨fun h => (by cases h), ?_, fun h => ?_⟩
    · dsimp only
      rw [zrels_push, if_pos h1, List.length_append, w2]; rfl
    · dsimp only at h ⊢
      split at h
      · assumption
      · cases h
/-- what is built is good -/
theorem zbuild_good {t w : Bool} {l : List (Nat × Nat × Nat)} (hf : zform l) (hd : ∀ q ∈ l, ztd q) : znok (zbuild t w l).1 ∧ (zbuild t w l).1.length ≤ 160 ∧ (∀ q ∈ (zbuild t w l).2, q.2 < (zbuild t w l).1.length) ∧ (zbuild t w l).2.length ≤ 9 ∧ ∃ J, (zbuild t w l).2.map (fun q => q.1) = 0 :: J ∧ zlk J ∧ (zR J).length ≤ 4 := by
  obtain ⟨⟨sf, h1, h2⟩, h3, h4⟩ := hf
  have key : ∀ (rest : List (Nat × Nat × Nat)) (i : Nat) (σ : Nat × Nat × Nat × Nat × Nat) (b : zBt), (∀ q ∈ rest, zkok q ∧ ztd q) → i + rest.length ≤ 80 → zinv σ i b.1 b.2.1 b.2.2.1 b.2.2.2.1 → zinw false σ b.2.2.1 b.2.2.2.1 b.2.2.2.2 → zgd b.1 b.2.1 b.2.2.1 b.2.2.2.1 → zjn σ b.2.2.2.1 b.2.2.2.2 → zgo σ rest = some sf →
      ∃ i', i' ≤ 80 ∧ zinv sf i' (zbgo t w σ b rest).1 (zbgo t w σ b rest).2.1 (zbgo t w σ b rest).2.2.1 (zbgo t w σ b rest).2.2.2.1 ∧ zgd (zbgo t w σ b rest).1 (zbgo t w σ b rest).2.1 (zbgo t w σ b rest).2.2.1 (zbgo t w σ b rest).2.2.2.1 ∧ zjn sf (zbgo t w σ b rest).2.2.2.1 (zbgo t w σ b rest).2.2.2.2 ∧ (zrels (zbgo t w σ b rest).2.2.2.1 (zbgo t w σ b rest).2.2.2.2).length = sf.2.2.1 := by
    intro rest
    induction rest with
    | nil => intro i σ b _ hi a1 a2 a3 a4 a5; cases a5; exact ⟨i, by simpa using hi, a1, a3, a4, a2.2.1⟩
    | cons q rest ih =>
      intro i σ b hq hi a1 a2 a3 a4 a5
      obtain ⟨s', hz, hgo'⟩ := zgo_step a5
      have hk := hq q (by simp)
      have e : zbgo t w σ b (q :: rest) = zbgo t w s' (ztk t w (decide (σ.1 = 3)) q.1 q.2.1 b.1 b.2.1 b.2.2.1 b.2.2.2.1 b.2.2.2.2) rest := by
        rw [zbgo, hz]
      rw [e]
      refine ih (i + 1) s' _ (fun x hx => hq x (by simp [hx])) (by simp at hi; omega) (zinv_step a1 hz hk.1.1) ?_ (zgd_step a1 a3 hz hk.1.1 hk.2.1 hk.2.2) (zjn_step a4 hz a1.2.2.2.2.2.2.2.2.2.2.2) hgo'
      have hw0 := zinw_step' (t := t) (w := w) (d := q.2.1) a1 a2 hz hk.1.1
      exact hw0
  obtain ⟨i', b0, b1, b2, b3, b4⟩ := key l 0 zs0 ([], [], [], [], 0) (fun q hq => ⟨h3 q hq, hd q hq⟩) (by simpa using h4) zinv_0 ⟨fun h => (by cases h), rfl, fun h => (by cases h)⟩ ⟨fun i q h => (by simp at h), by simp, by simp, by simp⟩ ⟨[], rfl, fun _ => trivial, fun h => (by cases h)⟩ h1
  obtain ⟨g1, g2, g3, g4, g5, g6, g7, g8, g9⟩ := b1
  rw [if_pos h2.1] at g2
  have hl4 := g9.2.1
  obtain ⟨d1, d2, -⟩ := zinv_down (t := t) (w := w) 1 (by omega) g2 g3 g5
  obtain ⟨c1, c2, c3, c4⟩ := zgd_down (t := t) (w := w) 1 (by omega) _ _ _ b2 (by omega) g5
  obtain ⟨J, e1, e2, -⟩ := b3
  refine ⟨c1, ?_, ?_, ?_, J, ?_, e2 h2.2.2, ?_⟩
  · show (zdown _ _ _ _ _).1.length ≤ 160
    omega
  · intro q hq
    rcases List.mem_append.mp hq with hq | hq
    · exact c4 q hq
    · rw [List.mem_singleton] at hq; subst hq
      exact c2 _ (zgetD_mem (by omega))
  · show (_ ++ [_]).length ≤ 9
    rw [List.length_append]; simp only [List.length_cons, List.length_nil]; omega
  · show (_ ++ [_]).map _ = _
    rw [List.map_append]; exact e1
  · have hr : zrels (zbgo t w zs0 ([], [], [], [], 0) l).2.2.2.1 (zbgo t w zs0 ([], [], [], [], 0) l).2.2.2.2 = zR J := by
      unfold zrels; rw [e1]; rfl
    rw [← hr, b4]; exact hl4
