/-! Spoken text. -/
def zwrd (k : Nat) : List Nat := zword (fn_Parser_wordOf (nI k))
def zprs : Nat → List Nat
  | 0 => []
  | d + 1 => zword 35 ++ zprs d
theorem zprs_len : ∀ d, (zprs d).length = 6 * d
  | 0 => rfl
  | d + 1 => by
    have h : (zword 35).length = 6 := by decide +kernel
    unfold zprs
    rw [List.length_append, zprs_len d, h]; omega
/-- spoken nodes; whether they stand between the two words -/
def zvq (nd : List (Nat × Nat × Nat × Nat)) : Nat → Bool → Nat → List Nat
  | 0, _, _ => []
  | f + 1, b, i => match nd[i]? with
    | none => []
    | some q => if q.1 = 1 then zdigs q.2.1 else if q.1 = 2 then [97 + q.2.1] else if q.1 ≤ 6 then zsym q.1 ++ (zprs q.2.1 ++ (zword 36 ++ zvq nd f true q.2.2.1))
      else (if b then zword 33 else []) ++ ((if q.1 = 13 then zword 34 ++ zvq nd f true q.2.2.1 else zvq nd f true q.2.2.1 ++ (32 :: (zwrd q.1 ++ (32 :: zvq nd f true q.2.2.2)))) ++ (if b then zword 37 else []))
theorem zvq_fuel {nd : List (Nat × Nat × Nat × Nat)} (h : znok nd) : ∀ (f g : Nat) (b : Bool) (i : Nat), i < f → i < g → zvq nd f b i = zvq nd g b i
  | 0, _, _, _, h, _ => absurd h (Nat.not_lt_zero _)
  | _ + 1, 0, _, _, _, h => absurd h (Nat.not_lt_zero _)
  | f + 1, g + 1, b, i, h1, h2 => by
    unfold zvq
    cases hq : nd[i]? with
    | none => rfl
    | some q =>
      obtain ⟨l1, l2, l3, l4⟩ := znk_lt (h i q hq)
      dsimp only
      by_cases e1 : q.1 = 1
      · rw [if_pos e1, if_pos e1]
      rw [if_neg e1, if_neg e1]
      by_cases e2 : q.1 = 2
      · rw [if_pos e2, if_pos e2]
      rw [if_neg e2, if_neg e2]
      have hl := l1 (by omega)
      rw [zvq_fuel h f g true q.2.2.1 (by omega) (by omega)]
      by_cases e6 : q.1 ≤ 6
      · rw [if_pos e6, if_pos e6]
      rw [if_neg e6, if_neg e6]
      by_cases e13 : q.1 = 13
      · rw [if_pos e13, if_pos e13]
      rw [if_neg e13, if_neg e13]
      have hr := l2 (by omega)
      rw [zvq_fuel h f g true q.2.2.2 (by omega) (by omega)]
/-- a node, spoken -/
def zvc (nd : List (Nat × Nat × Nat × Nat)) (b : Bool) (i : Nat) : List Nat := zvq nd (i + 1) b i
theorem zvc_eq {nd : List (Nat × Nat × Nat × Nat)} (h : znok nd) (b : Bool) {i : Nat} {q : Nat × Nat × Nat × Nat} (hq : nd[i]? = some q) : zvc nd b i = if q.1 = 1 then zdigs q.2.1 else if q.1 = 2 then [97 + q.2.1] else if q.1 ≤ 6 then zsym q.1 ++ (zprs q.2.1 ++ (zword 36 ++ zvc nd true q.2.2.1))
      else (if b then zword 33 else []) ++ ((if q.1 = 13 then zword 34 ++ zvc nd true q.2.2.1 else zvc nd true q.2.2.1 ++ (32 :: (zwrd q.1 ++ (32 :: zvc nd true q.2.2.2)))) ++ (if b then zword 37 else [])) := by
  obtain ⟨l1, l2, l3, l4⟩ := znk_lt (h i q hq)
  show zvq nd (i + 1) b i = _
  rw [zvq, hq]
  dsimp only
  unfold zvc
  by_cases e1 : q.1 = 1
  · rw [if_pos e1, if_pos e1]
  rw [if_neg e1, if_neg e1]
  by_cases e2 : q.1 = 2
  · rw [if_pos e2, if_pos e2]
  rw [if_neg e2, if_neg e2]
  have hl := l1 (by omega)
  rw [zvq_fuel h i (q.2.2.1 + 1) true q.2.2.1 (by omega) (by omega)]
  by_cases e6 : q.1 ≤ 6
  · rw [if_pos e6, if_pos e6]
  rw [if_neg e6, if_neg e6]
  by_cases e13 : q.1 = 13
  · rw [if_pos e13, if_pos e13]
  rw [if_neg e13, if_neg e13]
  have hr := l2 (by omega)
  rw [zvq_fuel h i (q.2.2.2 + 1) true q.2.2.2 (by omega) (by omega)]
theorem zwrd_len : ∀ k, k < 25 → ((7 ≤ k ∧ k ≤ 12) → (zwrd k).length = zwl k) ∧ ((14 ≤ k ∧ k ≤ 21) → (zwrd k).length ≤ 6) := by decide +kernel
theorem zwlens : (zword 33).length = 5 ∧ (zword 34).length = 6 ∧ (zword 36).length = 4 ∧ (zword 37).length = 6 := by decide +kernel
theorem zvc_len {nd : List (Nat × Nat × Nat × Nat)} (h : znok nd) : ∀ (n i : Nat), i < n → i < nd.length → (zvc nd true i).length = zTt zcs nd i ∧ (zvc nd false i).length ≤ zTt zcs nd i
  | 0, _, h, _ => absurd h (Nat.not_lt_zero _)
  | n + 1, i, hn, hi => by
    have hq := List.getElem?_eq_getElem hi
    obtain ⟨l1, l2, l3, l4⟩ := znk_lt (h i _ hq)
    rw [zvc_eq h true hq, zvc_eq h false hq, zTt_eq zcs h hq]
    generalize nd[i] = q at *
    have s1 := (zsym_len q.1 (by omega)).1
    have s2 := (zwrd_len q.1 (by omega)).1
    obtain ⟨w33, w34, w36, w37⟩ := zwlens
    rw [show zcs q.1 q.2.1 = (if q.1 = 1 then zndig q.2.1 else if q.1 = 2 then 1 else if 3 ≤ q.1 ∧ q.1 ≤ 6 then 7 + 6 * q.2.1 else if q.1 = 22 then 0 else if q.1 = 13 then 17 else 13 + zwl q.1) from rfl]
    by_cases e1 : q.1 = 1
    · simp only [if_pos e1]; rw [zdigs_len, if_pos (by omega), if_neg (by omega)]; exact ⟨rfl, Nat.le_refl _⟩
    simp only [if_neg e1]
    by_cases e2 : q.1 = 2
    · simp only [if_pos e2]; rw [if_pos (by omega), if_neg (by omega)]; exact ⟨rfl, Nat.le_refl _⟩
    simp only [if_neg e2]
    have hl := l1 (by omega)
    have ih1 := (zvc_len h n q.2.2.1 (by omega) (by omega)).1
    rw [if_neg (by omega : ¬ q.1 ≤ 2)]
    by_cases e6 : q.1 ≤ 6
    · have := s1 (by omega)
      rw [if_pos e6, if_pos e6, if_pos (by omega : 3 ≤ q.1 ∧ q.1 ≤ 6), if_neg (by omega : ¬ (7 ≤ q.1 ∧ q.1 ≤ 12))]
      have hp := zprs_len q.2.1
      simp only [List.length_append]
      refine ⟨?_, ?_⟩ <;> omega
    rw [if_neg e6, if_neg e6, if_neg (by omega : ¬ (3 ≤ q.1 ∧ q.1 ≤ 6)), if_neg (by omega : ¬ q.1 = 22)]
    simp only [if_true, Bool.false_eq_true, if_false]
    by_cases e13 : q.1 = 13
    · rw [if_pos e13, if_pos e13, if_neg (by omega : ¬ (7 ≤ q.1 ∧ q.1 ≤ 12))]
      simp only [List.length_append, List.length_nil]
      refine ⟨?_, ?_⟩ <;> omega
    have hr := l2 (by omega)
    have ih2 := (zvc_len h n q.2.2.2 (by omega) (by omega)).1
    have := s2 (by omega)
    rw [if_neg e13, if_neg e13, if_pos (by omega : 7 ≤ q.1 ∧ q.1 ≤ 12)]
    simp only [List.length_append, List.length_cons, List.length_nil]
    refine ⟨?_, ?_⟩ <;> omega
/-- all sums, spoken -/
def zvj (k : Nat) : List Nat := if k = 0 then [] else 32 :: (zwrd k ++ [32])
def zvall (nd : List (Nat × Nat × Nat × Nat)) : List (Nat × Nat) → List Nat
  | [] => []
  | q :: S => zvj q.1 ++ (zvc nd false q.2 ++ zvall nd S)
theorem zvall_len {nd : List (Nat × Nat × Nat × Nat)} (hok : znok nd) : ∀ S : List (Nat × Nat), (∀ q ∈ S, q.2 < nd.length) → (∀ q ∈ S, q.1 = 0 ∨ 14 ≤ q.1 ∧ q.1 ≤ 21) → (zvall nd S).length ≤ zcost zcs zjs nd S
  | [], _, _ => Nat.le_refl _
  | q :: S, h, hj => by
    have h1 := (zvc_len hok (q.2 + 1) q.2 (by omega) (h q (by simp))).2
    have h2 := zvall_len hok S (fun x hx => h x (by simp [hx])) (fun x hx => hj x (by simp [hx]))
    have h3 : (zvj q.1).length ≤ zjs q.1 := by
      unfold zvj zjs
      rcases hj q (by simp) with h0 | h0
      · rw [if_pos h0, if_pos h0]; exact Nat.le_refl _
      · rw [if_neg (by omega), if_neg (by omega)]
        have := (zwrd_len q.1 (by omega)).2 h0
        simp only [List.length_cons, List.length_append, List.length_nil]; omega
    show (zvj q.1 ++ (zvc nd false q.2 ++ zvall nd S)).length ≤ (zTt zcs nd q.2 + zjs q.1) + zcost zcs zjs nd S
    rw [List.length_append, List.length_append]; omega
section SS
variable {N : Nat} {tc : Int32} {tk td tl tr : Nat → Int32} {nd : List (Nat × Nat × Nat × Nat)}
theorem sp_primesS (hN : N < 2 ^ 31) (d : Nat) (hd : d ≤ 3) : ∀ (n j : Nat) (c : Int32) (f : Nat → Int32) (l : List Nat), j ≤ d → d - j < n → zstr N c f l → l.length + 6 * (d - j) + 4 ≤ N → zwp (fn_Speaker_writeStart_L81 N tc tk td n c f (nI d) (nI j)) (fun r => zstr N r.1 r.2 (l ++ (zprs (d - j) ++ zword 36)))
  | 0, _, _, _, _, _, h, _, _ => absurd h (Nat.not_lt_zero _)
  | n + 1, j, c, f, l, hj, hn, hs, hl => by
    obtain ⟨w33, w34, w36, w37⟩ := zwlens
    have w35 : (zword 35).length = 6 := by decide +kernel
    unfold fn_Speaker_writeStart_L81
    by_cases he : j = d
    · refine zwp_t (nI_le (by omega) (by omega)) ?_
      have e : zprs (d - j) = [] := by rw [he, Nat.sub_self]; rfl
      rw [e, List.nil_append]
      exact zwp_ret (sp_word hN 36 (by omega) hs (by omega)) (fun r hr => hr)
    · refine zwp_f (nI_ge (by omega) (by omega)) (zwp_seq (sp_word hN 35 (by omega) hs (by omega)) (fun r hr => ?_))
      rw [nI_add1]
      refine zwp_mono (sp_primesS hN d hd n (j + 1) _ _ _ (by omega) (by omega) hr (by rw [List.length_append]; omega)) (fun u hu => ?_)
      rw [show d - j = (d - (j + 1)) + 1 by omega, zprs, List.append_assoc]
      rw [List.append_assoc] at hu
      exact hu
/-- what a node's first step says -/
def zvs (b : Bool) (q : Nat × Nat × Nat × Nat) : List Nat := if q.1 = 1 then zdigs q.2.1 else if q.1 = 2 then [97 + q.2.1] else if q.1 ≤ 6 then zsym q.1 ++ (zprs q.2.1 ++ zword 36) else (if b then zword 33 else []) ++ (if q.1 = 13 then zword 34 else [])
theorem zvs_o {b : Bool} {q : Nat × Nat × Nat × Nat} (h : 7 ≤ q.1) : zvs b q = (if b then zword 33 else []) ++ (if q.1 = 13 then zword 34 else []) := by unfold zvs; rw [if_neg (by omega), if_neg (by omega), if_neg (by omega)]
theorem zvs_f {b : Bool} {q : Nat × Nat × Nat × Nat} (h : 3 ≤ q.1 ∧ q.1 ≤ 6) : zvs b q = zsym q.1 ++ (zprs q.2.1 ++ zword 36) := by unfold zvs; rw [if_neg (by omega), if_neg (by omega), if_pos h.2]
theorem zvs_l {b : Bool} {q : Nat × Nat × Nat × Nat} (h : q.1 = 1 ∨ q.1 = 2) : zvs b q = if q.1 = 1 then zdigs q.2.1 else [97 + q.2.1] := by
  unfold zvs
  rcases h with h | h
  · rw [if_pos h, if_pos h]
  · rw [if_neg (by omega), if_pos h, if_neg (by omega)]
theorem zword32 : zword 32 = [] := by decide +kernel
theorem sp_startS (hN : N < 2 ^ 31) (hc : zct tc tk td tl tr nd) {i : Nat} {q : Nat × Nat × Nat × Nat} (hi : nd[i]? = some q) (hq : znk i q) (b : Bool) {c : Int32} {f : Nat → Int32} {l : List Nat} (hs : zstr N c f l) (hl : l.length + (zvs b q).length ≤ N) :
    zwp (fn_Speaker_writeStart N tc tk td c f (nI i) (if b then 0 else 1)) (fun r => zstr N r.1 r.2 (l ++ zvs b q)) := by
  obtain ⟨c1, c2, -, -⟩ := sp_tkind hc hi
  obtain ⟨-, -, l3, l4⟩ := znk_lt hq
  unfold fn_Speaker_writeStart
  rw [c1, Option.bind_some, c2, Option.bind_some]
  obtain ⟨f1, -, -, f4, -⟩ := kfn q.1 (by omega)
  by_cases hb : 7 ≤ q.1 ∧ q.1 ≤ 13
  · refine zwp_f (by rw [f4, if_pos hb]; decide) ?_
    rw [zvs_o hb.1] at hl ⊢
    rw [List.length_append] at hl
    have h35 : ∀ w : Nat, w < 38 → zword w = (if b then zword 33 else []) → zwp (fn_Speaker_writeStart_b35 N tc tk td c f (nI q.1) w) (fun r => zstr N r.1 r.2 (l ++ ((if b then zword 33 else []) ++ (if q.1 = 13 then zword 34 else [])))) := by
      intro w hw ew
      unfold fn_Speaker_writeStart_b35 fn_Speaker_writeStart_b54
      rw [← ew] at hl ⊢
      refine zwp_seq (sp_word hN w hw hs (by omega)) (fun r hr => ?_)
      by_cases h13 : q.1 = 13
      · rw [if_pos h13] at hl ⊢
        refine zwp_t (by rw [h13]; rfl) (zwp_ret (sp_word hN 34 (by omega) hr (by rw [List.length_append]; omega)) (fun u hu => ?_))
        rw [List.append_assoc] at hu; exact hu
      · rw [if_neg h13] at hl ⊢
        refine zwp_f (fun h => h13 ((nI_inj (b := 13) (by omega) (by omega)).mp h)) (zwp_ret (sp_word hN 32 (by omega) hr (by rw [List.length_append, zword32]; simp only [List.length_nil]; omega)) (fun u hu => ?_))
        rw [List.append_assoc, zword32] at hu; exact hu
    cases b with
    | true => exact zwp_t rfl (h35 33 (by omega) rfl)
    | false => exact zwp_f (by decide) (h35 32 (by omega) zword32)
  refine zwp_t (by rw [f4, if_neg hb]) ?_
  by_cases hf : 3 ≤ q.1 ∧ q.1 ≤ 6
  · rw [zvs_f hf] at hl ⊢
    refine zwp_f (by rw [f1, if_pos hf]; decide) ?_
    have hd : q.2.1 ≤ 3 := by
      unfold znk at hq
      rcases hq with ⟨h, -⟩ | ⟨h, -⟩ | ⟨-, -, h, -⟩ | ⟨h, -⟩ | ⟨h, -⟩
      · omega
      · omega
      · exact h
      · omega
      · omega
    obtain ⟨w33, w34, w36, w37⟩ := zwlens
    rw [List.length_append, List.length_append, zprs_len, w36] at hl
    refine zwp_seq (sp_word hN _ (zsym_lt q.1 (by omega)) hs (by show l.length + (zsym q.1).length ≤ N; omega)) (fun r hr => ?_)
    refine zwp_mono (sp_primesS hN q.2.1 hd zFU 0 _ _ _ (Nat.zero_le _) (Nat.lt_of_le_of_lt (by omega : q.2.1 - 0 ≤ 3) (by decide)) hr (by rw [List.length_append]; show l.length + (zsym q.1).length + 6 * (q.2.1 - 0) + 4 ≤ N; omega)) (fun u hu => ?_)
    rw [Nat.sub_zero, List.append_assoc] at hu
    exact hu
  · refine zwp_t (by rw [f1, if_neg hf]) ?_
    have hk : q.1 = 1 ∧ q.2.1 < 1000000 ∨ q.1 = 2 ∧ q.2.1 < 26 := by
      unfold znk at hq
      rcases hq with h | h | ⟨h, -⟩ | ⟨h, -⟩ | ⟨h, -⟩
      · exact Or.inl h
      · exact Or.inr h
      · omega
      · omega
      · omega
    rw [zvs_l (by omega)] at hl ⊢
    exact zwp_ret (sp_leaf hN hs hk hl) (fun r hr => hr)
end SS
section SS
variable {N : Nat} {tc : Int32} {tk td tl tr : Nat → Int32} {nd : List (Nat × Nat × Nat × Nat)}
/-- a step's spoken text -/
def zvo (nd : List (Nat × Nat × Nat × Nat)) (root x : Nat) : List Nat := if x % 3 = 0 then zvc nd (decide (x / 3 ≠ root)) (x / 3) else if x % 3 = 1 then 32 :: (zwrd ((nd[x / 3]?).getD (0, 0, 0, 0)).1 ++ [32])
  else if 7 ≤ ((nd[x / 3]?).getD (0, 0, 0, 0)).1 ∧ ((nd[x / 3]?).getD (0, 0, 0, 0)).1 ≤ 13 ∧ x / 3 ≠ root then zword 37 else []
theorem zvo_plan (h : znok nd) {root i : Nat} {q : Nat × Nat × Nat × Nat} (hq : nd[i]? = some q) (hir : i ≤ root) (W : List Nat) : zvs (decide (i ≠ root)) q ++ zcat (zvo nd root) (zpl i q ++ W) = zvc nd (decide (i ≠ root)) i ++ zcat (zvo nd root) W := by
  obtain ⟨l1, l2, l3, l4⟩ := znk_lt (h i q hq)
  have o0 : ∀ a, a < i → zvo nd root (a * 3) = zvc nd true a := fun a ha => by unfold zvo; rw [if_pos (by omega), Nat.mul_div_cancel _ (by omega), decide_eq_true (by omega)]
  have o1 : zvo nd root (i * 3 + 1) = 32 :: (zwrd q.1 ++ [32]) := by unfold zvo; rw [if_neg (by omega), if_pos (by omega), show (i * 3 + 1) / 3 = i by omega, hq]; rfl
  have o2 : zvo nd root (i * 3 + 2) = if 7 ≤ q.1 ∧ q.1 ≤ 13 ∧ i ≠ root then zword 37 else [] := by unfold zvo; rw [if_neg (by omega), if_neg (by omega), show (i * 3 + 2) / 3 = i by omega, hq]; rfl
  rw [zvc_eq h _ hq]
  unfold zpl
  by_cases h2 : q.1 ≤ 2
  · rw [if_pos h2, zvs_l (by omega), List.nil_append]
    by_cases h1 : q.1 = 1
    · rw [if_pos h1, if_pos h1]
    · rw [if_neg h1, if_neg h1, if_pos (by omega)]
  · have hl := l1 h2
    rw [if_neg h2, if_neg (by omega : ¬ q.1 = 1), if_neg (by omega : ¬ q.1 = 2)]
    by_cases h6 : q.1 ≤ 6
    · rw [if_neg (by omega), if_pos h6, zvs_f (by omega)]
      simp only [List.cons_append, List.nil_append, zcat, o0 _ hl, o2, List.append_assoc]
      rw [if_neg (by omega), List.nil_append]
    rw [if_neg h6, zvs_o (by omega)]
    have e37 : (if 7 ≤ q.1 ∧ q.1 ≤ 13 ∧ i ≠ root then zword 37 else []) = (if decide (i ≠ root) = true then zword 37 else []) := by
      by_cases hir' : i = root
      · rw [if_neg (by omega), if_neg (by simp [hir'])]
      · rw [if_pos (by omega), if_pos (by simp [hir'])]
    by_cases h13 : q.1 = 13
    · rw [if_pos h13, if_pos h13, if_neg (by omega : ¬ (7 ≤ q.1 ∧ q.1 ≤ 12))]
      simp only [List.cons_append, List.nil_append, zcat, o0 _ hl, o2, List.append_assoc, e37]
    · have hr := l2 (by omega)
      rw [if_neg h13, if_neg h13, if_pos (by omega : 7 ≤ q.1 ∧ q.1 ≤ 12)]
      simp only [List.cons_append, List.nil_append, zcat, o0 _ hl, o0 _ hr, o1, o2, List.append_assoc, List.append_nil, e37]
theorem zpl_le (h : znok nd) {i : Nat} {q : Nat × Nat × Nat × Nat} (hq : nd[i]? = some q) : ∀ x ∈ zpl i q, x / 3 ≤ i := by
  obtain ⟨l1, l2, l3, l4⟩ := znk_lt (h i q hq)
  intro x hx
  unfold zpl at hx
  by_cases h2 : q.1 ≤ 2
  · rw [if_pos h2] at hx; simp at hx
  · have hll := l1 h2
    rw [if_neg h2] at hx
    by_cases hb : 7 ≤ q.1 ∧ q.1 ≤ 12
    · have hrr := l2 hb
      rw [if_pos hb] at hx
      simp only [List.mem_cons, List.mem_nil_iff, or_false] at hx
      rcases hx with rfl | rfl | rfl | rfl <;> omega
    · rw [if_neg hb] at hx
      simp only [List.mem_cons, List.mem_nil_iff, or_false] at hx
      rcases hx with rfl | rfl <;> omega
theorem sp_btwS (hN : N < 2 ^ 31) {k : Nat} (hk : k < 25) {c : Int32} {f : Nat → Int32} {l : List Nat} (hs : zstr N c f l) (hl : l.length + (32 :: (zwrd k ++ [32])).length ≤ N) : zwp (fn_Speaker_writeBetween N c f (nI k)) (fun r => zstr N r.1 r.2 (l ++ 32 :: (zwrd k ++ [32]))) := by
  have hlt : ∀ k, k < 25 → fn_Parser_wordOf (nI k) < 38 := by decide +kernel
  simp only [List.length_cons, List.length_append, List.length_nil] at hl
  unfold fn_Speaker_writeBetween
  refine zwp_seq (sp_put (x := 32) hN hs (by omega) (by omega)) (fun r1 h1 => ?_)
  refine zwp_seq (sp_word hN _ (hlt k hk) h1 (by rw [List.length_append]; show l.length + 1 + (zwrd k).length ≤ N; omega)) (fun r2 h2 => ?_)
  refine zwp_ret (sp_put (x := 32) hN h2 (by rw [List.length_append, List.length_append]; show l.length + 1 + (zwrd k).length < N; omega) (by omega)) (fun r hr => ?_)
  rw [List.append_assoc, List.append_assoc] at hr
  exact hr
theorem sp_endS (hN : N < 2 ^ 31) (hc : zct tc tk td tl tr nd) {i : Nat} {q : Nat × Nat × Nat × Nat} (hi : nd[i]? = some q) (hq : znk i q) (b : Bool) {c : Int32} {f : Nat → Int32} {l : List Nat} (hs : zstr N c f l) (hl : l.length + (if 7 ≤ q.1 ∧ q.1 ≤ 13 ∧ b = true then zword 37 else []).length ≤ N) :
    zwp (fn_Speaker_writeEnd N tc tk c f (nI i) (if b then 0 else 1)) (fun r => zstr N r.1 r.2 (l ++ (if 7 ≤ q.1 ∧ q.1 ≤ 13 ∧ b = true then zword 37 else []))) := by
  obtain ⟨c1, -, -, -⟩ := sp_tkind hc hi
  obtain ⟨-, -, l3, l4⟩ := znk_lt hq
  obtain ⟨-, -, -, f4, -⟩ := kfn q.1 (by omega)
  unfold fn_Speaker_writeEnd
  cases b with
  | false =>
    have e : (if 7 ≤ q.1 ∧ q.1 ≤ 13 ∧ false = true then zword 37 else []) = [] := if_neg (by simp)
    rw [e, List.append_nil]
    exact zwp_f (by decide) (zwp_some hs)
  | true =>
    by_cases hb : 7 ≤ q.1 ∧ q.1 ≤ 13
    · have e : (if 7 ≤ q.1 ∧ q.1 ≤ 13 ∧ true = true then zword 37 else []) = zword 37 := if_pos ⟨hb.1, hb.2, rfl⟩
      rw [e] at hl ⊢
      refine zwp_t rfl ?_
      rw [c1, Option.bind_some]
      refine zwp_f (by rw [f4, if_pos hb]; decide) ?_
      exact zwp_ret (sp_word hN 37 (by omega) hs hl) (fun r hr => hr)
    · have e : (if 7 ≤ q.1 ∧ q.1 ≤ 13 ∧ true = true then zword 37 else []) = [] := if_neg (fun h => hb ⟨h.1, h.2.1⟩)
      rw [e, List.append_nil]
      refine zwp_t rfl ?_
      rw [c1, Option.bind_some]
      exact zwp_t (by rw [f4, if_neg hb]) (zwp_some hs)
theorem sp_sumS (hN : N < 2 ^ 31) (hc : zct tc tk td tl tr nd) (hok : znok nd) (root : Nat) (hroot : root < nd.length) : ∀ (n st : Nat) (W : List Nat) (Wc : Int32) (Wi : Nat → Int32) (c : Int32) (f : Nat → Int32) (l : List Nat),
    480 - st < n → zstk nI 480 Wc Wi W → zstr N c f l → (∀ x ∈ W, x / 3 ≤ root) → st + zsu (zpos3 nd) W ≤ 480 → l.length + (zcat (zvo nd root) W).length ≤ N →
    zwp (fn_SW_writeSum_L22 N tc tk td tl tr n Wc Wi c f (nI root) (nI st)) (fun r => zstr N r.2.2.1 r.2.2.2 (l ++ zcat (zvo nd root) W))
  | 0, _, _, _, _, _, _, _, h, _, _, _, _, _ => absurd h (Nat.not_lt_zero _)
  | n + 1, st, W, Wc, Wi, c, f, l, hn, hW, hs, hv, hst, hl => by
    have hcap := hc.2.1
    unfold fn_SW_writeSum_L22 fn_IntStack_size
    cases W with
    | nil =>
      have e : l ++ zcat (zvo nd root) [] = l := List.append_nil l
      rw [e]
      refine zwp_ite (fun _ => zwp_some hs) (fun _ => zwp_t (by rw [hW.1]; exact Int32.le_refl _) (zwp_some hs))
    | cons x W =>
      have hxr := hv x (by simp)
      have hx : x / 3 < nd.length := by omega
      have hp := zpos3_pos hok hx
      have hst' : st + (zpos3 nd x + zsu (zpos3 nd) W) ≤ 480 := hst
      refine zwp_f (show ¬ (480 : Int32) ≤ nI st from nI_ge (b := 480) (by omega) (by omega)) (zwp_f ?_ ?_)
      · rw [hW.1, List.length_cons]; exact nI_ge (a := 0) (by omega) (by have := hW.2.1; simp only [List.length_cons] at this; omega)
      rw [sp_pop (by omega) hW, Option.bind_some]
      dsimp only
      obtain ⟨m1, m2⟩ := nI_mod3 x (by omega)
      rw [m1, m2]
      have hWt := zstk_tail hW
      have hvt : ∀ y ∈ W, y / 3 ≤ root := fun y hy => hv y (by simp [hy])
      have hl' : l.length + (zvo nd root x ++ zcat (zvo nd root) W).length ≤ N := hl
      rw [List.length_append] at hl'
      have hq := List.getElem?_eq_getElem hx
      have hroot' : nI (x / 3) = nI root ↔ x / 3 = root := nI_inj (by omega) (by omega)
      have h81 : x % 3 = 0 → zwp (fn_SW_writeSum_b81 N tc tk td tl tr (fn_SW_writeSum_L22 N tc tk td tl tr n) (nI W.length) Wi c f (nI root) (nI st) (nI (x / 3)) (nI (x / 3)) (if decide (x / 3 ≠ root) then 0 else 1)) (fun r => zstr N r.2.2.1 r.2.2.2 (l ++ zcat (zvo nd root) (x :: W))) := by
        intro h0
        have e0 : zvo nd root x = zvc nd (decide (x / 3 ≠ root)) (x / 3) := by unfold zvo; rw [if_pos h0]
        have e1 : zpos3 nd x = zTt zc3 nd (x / 3) := by unfold zpos3; rw [if_pos h0]
        obtain ⟨s1, s2⟩ := zpl_steps hok hq
        have s3 := zpl_le hok hq
        have hpl := zvo_plan hok hq hxr W
        have hlen := congrArg List.length hpl
        rw [List.length_append, List.length_append] at hlen
        have hWl := zsu_len hok (zpl (x / 3) nd[x / 3] ++ W) (fun y hy => by
          rcases List.mem_append.mp hy with h | h
          · exact s2 y h
          · have := hvt y h; omega)
        rw [List.length_append, zsu_app] at hWl
        unfold fn_SW_writeSum_b81 fn_SW_writeSum_b134
        refine zwp_seq (sp_startS hN hc hq (hok _ _ hq) _ hs (by rw [e0] at hl'; omega)) (fun r hr => ?_)
        refine zwp_seq (show zwp (fn_SW_planOperands (nI W.length) Wi tc tl tr (nI (x / 3))) (fun r => zstk nI 480 r.1 r.2 (zpl (x / 3) nd[x / 3] ++ W)) from sp_planP hc hq (hok _ _ hq) hWt (by omega)) (fun u hu => ?_)
        rw [nI_add1]
        refine zwp_mono (sp_sumS hN hc hok root hroot n (st + 1) _ _ _ _ _ _ (by omega) hu hr (fun y hy => by
          rcases List.mem_append.mp hy with h | h
          · have := s3 y h; omega
          · exact hvt y h) (by rw [zsu_app]; omega) (by have h9 := hl'; rw [e0] at h9; rw [List.length_append]; omega)) (fun v hv => ?_)
        rw [List.append_assoc, hpl, ← e0] at hv
        exact hv
      by_cases h0 : x % 3 = 0
      · refine zwp_t (by rw [h0]; rfl) ?_
        by_cases hxe : x / 3 = root
        · have := h81 h0
          rw [decide_eq_false (by omega)] at this
          exact zwp_t (hroot'.mpr hxe) this
        · have := h81 h0
          rw [decide_eq_true hxe] at this
          exact zwp_f (fun h => hxe (hroot'.mp h)) this
      · have e1 : zpos3 nd x = 1 := by unfold zpos3; rw [if_neg h0]
        refine zwp_f (nI_ne0 (by omega) (by omega)) ?_
        have hnx : ∀ c' f', zstr N c' f' (l ++ zvo nd root x) → zwp (fn_SW_writeSum_L22 N tc tk td tl tr n (nI W.length) Wi c' f' (nI root) (nI (st + 1))) (fun r => zstr N r.2.2.1 r.2.2.2 (l ++ zcat (zvo nd root) (x :: W))) := by
          intro c' f' h
          refine zwp_mono (sp_sumS hN hc hok root hroot n (st + 1) W _ _ c' f' _ (by omega) hWt h hvt (by omega) (by rw [List.length_append]; omega)) (fun r hr => ?_)
          rw [List.append_assoc] at hr; exact hr
        obtain ⟨-, -, l3, l4⟩ := znk_lt (hok _ _ hq)
        by_cases h1 : x % 3 = 1
        · refine zwp_t (by rw [h1]; rfl) ?_
          rw [(sp_tkind hc hq).1, Option.bind_some]
          unfold fn_SW_writeSum_b134
          rw [nI_add1]
          have e2 : zvo nd root x = 32 :: (zwrd nd[x / 3].1 ++ [32]) := by unfold zvo; rw [if_neg h0, if_pos h1, hq]; rfl
          rw [e2] at hl'
          refine zwp_seq (sp_btwS hN (by omega) hs (by omega)) (fun r hr => ?_)
          exact hnx _ _ (by rw [e2]; exact hr)
        · refine zwp_f (fun h => h1 ((nI_inj (b := 1) (by omega) (by omega)).mp h)) ?_
          have e2 : zvo nd root x = (if 7 ≤ nd[x / 3].1 ∧ nd[x / 3].1 ≤ 13 ∧ decide (x / 3 ≠ root) = true then zword 37 else []) := by
            unfold zvo; rw [if_neg h0, if_neg h1, hq]; simp only [decide_eq_true_eq]; rfl
          have h130 : zwp (fn_SW_writeSum_b130 N tc tk td tl tr (fn_SW_writeSum_L22 N tc tk td tl tr n) (nI W.length) Wi c f (nI root) (nI st) (nI (x / 3)) (if decide (x / 3 ≠ root) then 0 else 1)) (fun r => zstr N r.2.2.1 r.2.2.2 (l ++ zcat (zvo nd root) (x :: W))) := by
            unfold fn_SW_writeSum_b130 fn_SW_writeSum_b134
            rw [nI_add1]
            refine zwp_seq (sp_endS hN hc hq (hok _ _ hq) _ hs (by rw [← e2]; omega)) (fun r hr => ?_)
            exact hnx _ _ (by rw [e2]; exact hr)
          by_cases hxe : x / 3 = root
          · have := h130
            rw [decide_eq_false (by omega)] at this
            exact zwp_t (hroot'.mpr hxe) this
          · have := h130
            rw [decide_eq_true hxe] at this
            exact zwp_f (fun h => hxe (hroot'.mp h)) this
/-- a sum, spoken by the class -/
theorem sp_sumSp (hN : N < 2 ^ 31) (hc : zct tc tk td tl tr nd) (hok : znok nd) {root : Nat} (hroot : root < nd.length) (h1 : zTt zc1 nd root ≤ 160) (Wc : Int32) (Wi : Nat → Int32) {c : Int32} {f : Nat → Int32} {l : List Nat} (hs : zstr N c f l) (hl : l.length + (zvc nd false root).length ≤ N) :
    zwp (fn_SW_writeSum N Wc Wi tc tk td tl tr c f (nI root)) (fun r => zstr N r.2.2.1 r.2.2.2 (l ++ zvc nd false root)) := by
  have hcap := hc.2.1
  have h3 := zT_le zc3 zc1 3 zc3_le hok (root + 1) root (by omega) hroot
  unfold fn_SW_writeSum fn_IntStack_clear
  have e0 : zvo nd root (root * 3) = zvc nd false root := by unfold zvo; rw [if_pos (by omega), Nat.mul_div_cancel _ (by omega), decide_eq_false (by omega)]
  have e1 : zpos3 nd (root * 3) = zTt zc3 nd root := by unfold zpos3; rw [if_pos (by omega), Nat.mul_div_cancel _ (by omega)]
  refine zwp_seq (sp_push (g := nI) (N := 480) (root * 3) (by omega) zstk_nil (by decide) (by rw [show (3 : Int32) = nI 3 from rfl, nI_mulz]; exact Int32.add_zero _)) (fun r hr => ?_)
  have := sp_sumS hN hc hok root hroot zFU 0 [root * 3] _ _ c f l (by decide) hr hs (by intro x hx; rw [List.mem_singleton] at hx; subst hx; omega) (by simp only [zsu, e1]; omega) (by simp only [zcat, e0, List.append_nil]; exact hl)
  simp only [zcat, e0, List.append_nil] at this
  exact this
end SS
section SQ
variable {N : Nat} {tc ts : Int32} {tk td tl tr to tj : Nat → Int32} {nd : List (Nat × Nat × Nat × Nat)} {S : List (Nat × Nat)}
theorem sp_wrS (hN : N < 2 ^ 31) (hc : zctree tc ts tk td tl tr to tj nd S) (hok : znok nd) (h9 : S.length ≤ 9) (hr : ∀ q ∈ S, q.2 < nd.length) (hj : zjok S) (h1 : ∀ q ∈ S, zTt zc1 nd q.2 ≤ 160) : ∀ (n i : Nat) (Wc : Int32) (Wi : Nat → Int32) (c : Int32) (f : Nat → Int32) (l : List Nat),
    i ≤ S.length → S.length - i < n → zstr N c f l → l.length + (zvall nd (S.drop i)).length ≤ N →
    zwp (fn_SW_write_L6 N tc ts tk td tl tr to tj n Wc Wi c f (nI i)) (fun r => zstr N r.2.2.1 r.2.2.2 (l ++ zvall nd (S.drop i)))
  | 0, _, _, _, _, _, _, _, h, _, _ => absurd h (Nat.not_lt_zero _)
  | n + 1, i, Wc, Wi, c, f, l, hi, hn, hs, hl => by
    unfold fn_SW_write_L6 fn_Tree_sumCount
    by_cases he : i = S.length
    · refine zwp_t (by rw [hc.2.1]; exact nI_le (by omega) (by omega)) (zwp_some ?_)
      rw [he, List.drop_length]
      show zstr N c f (l ++ [])
      rw [List.append_nil]; exact hs
    · have hlt : i < S.length := by omega
      have hq := List.getElem?_eq_getElem hlt
      have hd : S.drop i = S[i] :: S.drop (i + 1) := List.drop_eq_getElem_cons hlt
      rw [hd] at hl ⊢
      have hl' : l.length + (zvj S[i].1 ++ (zvc nd false S[i].2 ++ zvall nd (S.drop (i + 1)))).length ≤ N := hl
      rw [List.length_append, List.length_append] at hl'
      refine zwp_f (by rw [hc.2.1]; exact nI_ge hlt (by omega)) ?_
      have h28 : ∀ c' f', zstr N c' f' (l ++ zvj S[i].1) → zwp (fn_SW_write_b28 N tc ts tk td tl tr to tj (fn_SW_write_L6 N tc ts tk td tl tr to tj n) Wc Wi c' f' (nI i)) (fun r => zstr N r.2.2.1 r.2.2.2 (l ++ zvall nd (S[i] :: S.drop (i + 1)))) := by
        intro c' f' h
        unfold fn_SW_write_b28
        rw [sp_root hc.2.1 h9 hc.2.2.1 hq, Option.bind_some]
        have hm : S[i] ∈ S := List.getElem_mem hlt
        refine zwp_seq (sp_sumSp hN hc.1 hok (hr _ hm) (h1 _ hm) Wc Wi h (by rw [List.length_append]; omega)) (fun r hr' => ?_)
        rw [nI_add1]
        refine zwp_mono (sp_wrS hN hc hok h9 hr hj h1 n (i + 1) _ _ _ _ _ hlt (by omega) hr' (by rw [List.length_append, List.length_append]; omega)) (fun u hu => ?_)
        rw [List.append_assoc, List.append_assoc] at hu
        exact hu
      rcases hj i _ hq with ⟨hi0, h0⟩ | ⟨hi0, h14⟩
      · refine zwp_t (by rw [hi0]; exact Int32.le_refl _) (h28 c f ?_)
        unfold zvj
        rw [if_pos h0, List.append_nil]; exact hs
      · refine zwp_f (show ¬ nI i ≤ 0 from nI_ge (a := 0) (by omega) (by omega)) ?_
        rw [sp_joint hc.2.1 h9 hc.2.2.2 hq, Option.bind_some]
        have ej : zvj S[i].1 = 32 :: (zwrd S[i].1 ++ [32]) := by unfold zvj; rw [if_neg (by omega)]
        rw [ej] at hl'
        refine zwp_seq (sp_btwS hN (k := S[i].1) (by omega) hs (by omega)) (fun r hr' => h28 _ _ ?_)
        rw [ej]; exact hr'
/-- the class's spoken text -/
theorem sp_writeS (hc : zctree tc ts tk td tl tr to tj nd S) (hok : znok nd) (h9 : S.length ≤ 9) (hr : ∀ q ∈ S, q.2 < nd.length) (hj : zjok S) (hc1 : zcost zc1 (fun _ => 0) nd S ≤ 160) (hcp : zcost zcs zjs nd S ≤ 1440) (Wc : Int32) (Wi : Nat → Int32) (c : Int32) (f : Nat → Int32) :
    zwp (fn_SW_write 1440 Wc Wi tc ts tk td tl tr to tj c f) (fun r => zstr 1440 r.2.2.1 r.2.2.2 (zvall nd S)) := by
  unfold fn_SW_write fn_CharRow_clear
  have h1 : ∀ q ∈ S, zTt zc1 nd q.2 ≤ 160 := fun q hq => by
    have := zsu_mem (fun q : Nat × Nat => zTt zc1 nd q.2 + (fun _ => 0) q.1) S q hq
    exact Nat.le_trans (by omega) (Nat.le_trans this hc1)
  have hlen := zvall_len hok S hr (zjok_mem hj)
  have := sp_wrS (N := 1440) (by omega) hc hok h9 hr hj h1 zFU 0 Wc Wi 0 f [] (Nat.zero_le _) (Nat.lt_of_le_of_lt (by omega : S.length - 0 ≤ 9) (by decide)) zstr_nil (by rw [List.drop_zero, List.length_nil]; omega)
  rw [List.drop_zero, List.nil_append] at this
  exact this
end SQ
/-! The reference speaks. -/
/-- letters in base 32 -/
def zlx : Nat → Nat → List Nat
  | 0, x => if x % 32 = 0 then [] else [96 + x % 32]
  | m + 1, x => (if x / 32 ^ (m + 1) % 32 = 0 then [] else [96 + x / 32 ^ (m + 1) % 32]) ++ zlx m x
theorem zlx_len : ∀ m x, (zlx m x).length ≤ m + 1
  | 0, x => by unfold zlx; split <;> simp
  | m + 1, x => by
    unfold zlx
    have := zlx_len m x
    rw [List.length_append]
    split
    · simp only [List.length_nil]; omega
    · simp only [List.length_cons, List.length_nil]; omega
theorem rp_let {x : Nat} (hx : x < 2 ^ 26) : ∀ (m n : Nat) (c : Int32) (f : Nat → Int32) (l : List Nat), m ≤ 4 → m + 1 < n → zro c f l → l.length + m + 1 ≤ 2500 → zwp (fn_Ref_letters_L4 n c f (nI x) (nI (32 ^ m))) (fun r => zro r.1 r.2 (l ++ zlx m x))
  | _, 0, _, _, _, _, h, _, _ => absurd h (Nat.not_lt_zero _)
  | m, n + 1, c, f, l, hm, hn, hs, hl => by
    have hp : 32 ^ m ≤ 1048576 := Nat.le_trans (Nat.pow_le_pow_right (by omega) hm) (by decide)
    have hp0 : 0 < 32 ^ m := Nat.pow_pos (by omega)
    have hd1 : x / 32 ^ m ≤ x := Nat.div_le_self _ _
    have hd2 : x / 32 ^ m / 32 ≤ x / 32 ^ m := Nat.div_le_self _ _
    have z1 : nI x / nI (32 ^ m) - nI x / nI (32 ^ m) / 32 * 32 = nI (x / 32 ^ m % 32) := by
      rw [nI_divz (by omega) hp0 (by omega), show (32 : Int32) = nI 32 from rfl, nI_divz (by omega) (by omega) (by omega), nI_mulz, nI_sub (by omega)]
      congr 1; omega
    unfold fn_Ref_letters_L4
    refine zwp_f (show ¬ nI (32 ^ m) ≤ 0 from nI_ge (a := 0) (by omega) (by omega)) (zwp_f (nI_ne0 hp0 (by omega)) ?_)
    rw [z1]
    have key : ∀ c' f', zro c' f' (l ++ (if x / 32 ^ m % 32 = 0 then [] else [96 + x / 32 ^ m % 32])) → zwp (fn_Ref_letters_b29 (fn_Ref_letters_L4 n) c' f' (nI x) (nI (32 ^ m))) (fun r => zro r.1 r.2 (l ++ zlx m x)) := by
      intro c' f' h
      unfold fn_Ref_letters_b29
      cases m with
      | zero =>
        cases n with
        | zero => omega
        | succ n =>
          unfold fn_Ref_letters_L4
          refine zwp_t (by decide) (zwp_some ?_)
          rw [Nat.pow_zero, Nat.div_one] at h; exact h
      | succ m =>
        have e10 : nI (32 ^ (m + 1)) / 32 = nI (32 ^ m) := by
          rw [show (32 : Int32) = nI 32 from rfl, nI_divz (by omega) (by omega) (by omega), Nat.pow_succ, Nat.mul_div_cancel _ (by omega)]
        rw [e10]
        refine zwp_mono (rp_let hx m n c' f' _ (by omega) (by omega) h (by rw [List.length_append]; split <;> simp only [List.length_cons, List.length_nil] <;> omega)) (fun u hu => ?_)
        rw [zlx, ← List.append_assoc]; exact hu
    by_cases h0 : x / 32 ^ m % 32 = 0
    · refine zwp_t (by rw [h0]; decide) (key c f ?_)
      rw [if_pos h0, List.append_nil]; exact hs
    · refine zwp_f (show ¬ nI (x / 32 ^ m % 32) ≤ 0 from nI_ge (a := 0) (by omega) (by omega)) ?_
      refine zwp_seq (rp_puts (96 + x / 32 ^ m % 32) hs (by omega) (by rw [show (97 : Int32) = nI 97 from rfl, nI_add, show 97 + x / 32 ^ m % 32 = 96 + x / 32 ^ m % 32 + 1 by omega, nI_sub1])) (fun r hr => key _ _ ?_)
      rw [if_neg h0]; exact hr
theorem rp_letters {x : Nat} (hx : x < 2 ^ 26) {c : Int32} {f : Nat → Int32} {l : List Nat} (hs : zro c f l) (hl : l.length + 5 ≤ 2500) : zwp (fn_Ref_letters c f (nI x)) (fun r => zro r.1 r.2 (l ++ zlx 4 x)) := by
  unfold fn_Ref_letters
  exact rp_let hx 4 zFU c f l (by omega) (by decide) hs (by omega)
/-- what has been said, each word behind a space; the row lacks the first space -/
def zrv (c : Int32) (f : Nat → Int32) (P : List Nat) : Prop := zro c f (P.drop 1) ∧ (P = [] ∨ 2 ≤ P.length)
theorem zdrop1 {P t : List Nat} (h : 1 ≤ P.length) : (P ++ t).drop 1 = P.drop 1 ++ t := by
  cases P with
  | nil => simp at h
  | cons a P => rfl
theorem zrv_put {c : Int32} {f : Nat → Int32} {P t : List Nat} (h : zro c f ((P ++ [32]).drop 1 ++ t)) (ht : 1 ≤ t.length) : zrv c f (P ++ 32 :: t) := by
  refine ⟨?_, Or.inr (by simp only [List.length_append, List.length_cons]; omega)⟩
  rw [show P ++ 32 :: t = P ++ [32] ++ t by simp, zdrop1 (by simp)]; exact h
/-- the space, then two rows of letters -/
theorem rp_word0 {a b : Nat} (ha : a < 2 ^ 26) (hb : b < 2 ^ 26) {c : Int32} {f : Nat → Int32} {P : List Nat} (hs : zrv c f P) (hl : P.length + 12 ≤ 2500) : zwp (fn_Ref_word c f (nI a) (nI b)) (fun r => zro r.1 r.2 ((P ++ [32]).drop 1 ++ (zlx 4 a ++ zlx 4 b))) := by
  obtain ⟨h1, h2⟩ := hs
  have l1 := zlx_len 4 a
  have key : ∀ c' f', zro c' f' ((P ++ [32]).drop 1) → zwp (fn_Ref_word_b13 c' f' (nI a) (nI b)) (fun r => zro r.1 r.2 ((P ++ [32]).drop 1 ++ (zlx 4 a ++ zlx 4 b))) := by
    intro c' f' h
    have hd : ((P ++ [32]).drop 1).length = P.length := by simp
    unfold fn_Ref_word_b13
    refine zwp_seq (rp_letters ha h (by omega)) (fun r hr => zwp_ret (rp_letters hb hr (by rw [List.length_append]; omega)) (fun u hu => ?_))
    rw [List.append_assoc] at hu; exact hu
  unfold fn_Ref_word
  rcases h2 with rfl | h2
  · refine zwp_t (by rw [h1.1]; decide) (key c f h1)
  · have hd : (P.drop 1).length = P.length - 1 := by simp
    refine zwp_f (by rw [h1.1, hd]; exact nI_ge (a := 0) (by omega) (by omega)) ?_
    refine zwp_seq (rp_puts 32 h1 (by omega) rfl) (fun r hr => key _ _ ?_)
    rw [zdrop1 (by omega)]; exact hr
theorem rp_word1 {a b : Nat} {x y : Int32} (ea : x = nI a) (eb : y = nI b) {w : List Nat} (hw : zlx 4 a ++ zlx 4 b = w) (hw1 : 1 ≤ w.length) (ha : a < 2 ^ 26) (hb : b < 2 ^ 26) {c : Int32} {f : Nat → Int32} {P : List Nat} (hs : zrv c f P) (hl : P.length + 12 ≤ 2500) : zwp (fn_Ref_word c f x y) (fun r => zrv r.1 r.2 (P ++ 32 :: w)) := by
  subst ea; subst eb; subst hw
  exact zwp_mono (rp_word0 ha hb hs hl) (fun r hr => zrv_put hr hw1)
theorem rp_blank {c : Int32} {f : Nat → Int32} {P : List Nat} (hs : zrv c f P) (hl : P.length + 12 ≤ 2500) : zwp (fn_Ref_word c f 0 0) (fun r => zro r.1 r.2 ((P ++ [32]).drop 1)) := by
  refine zwp_mono (rp_word0 (a := 0) (b := 0) (by omega) (by omega) hs hl) (fun r hr => ?_)
  have e : zlx 4 0 ++ zlx 4 0 = [] := by decide
  rw [e, List.append_nil] at hr; exact hr
/-- the word of a sort -/
def zvw (v : Nat) : List Nat := zlx 4 (fn_Ref_wordOf (nI v)).toNatClampNeg
theorem zvw_tab : ∀ v, v < 24 → fn_Ref_wordOf (nI v) = nI (fn_Ref_wordOf (nI v)).toNatClampNeg ∧ (fn_Ref_wordOf (nI v)).toNatClampNeg < 2 ^ 26 ∧ 1 ≤ (zvw v).length ∧ (zvw v).length ≤ 5 := by decide +kernel
theorem zvw_k : ∀ k, k < 25 → (7 ≤ k ∧ k ≤ 12 → zvw (zka k) = zwrd k) ∧ (k = 13 → 32 :: zvw (zka k) ++ [32] = 32 :: zword 34) ∧ (14 ≤ k ∧ k ≤ 20 ∧ k ≠ 14 ∧ k ≠ 18 ∧ k ≠ 19 → zvw (zka k) = zwrd k) := by decide +kernel
theorem rp_wordOf {v : Nat} (hv : v < 24) {c : Int32} {f : Nat → Int32} {P : List Nat} (hs : zrv c f P) (hl : P.length + 12 ≤ 2500) : zwp (fn_Ref_word c f (fn_Ref_wordOf (nI v)) 0) (fun r => zrv r.1 r.2 (P ++ 32 :: zvw v)) := by
  obtain ⟨t1, t2, t3, t4⟩ := zvw_tab v hv
  exact rp_word1 (b := 0) t1 rfl (by rw [show zlx 4 0 = [] from by decide, List.append_nil]; rfl) t3 t2 (by omega) hs hl
/-- words that stand by themselves -/
abbrev zfwd (x : Int32) (w : List Nat) : Prop := x = nI x.toNatClampNeg ∧ x.toNatClampNeg < 2 ^ 26 ∧ zlx 4 x.toNatClampNeg = w
theorem zfw_of : zfwd (fn_Ref_five 111 102 0 0 0) [111, 102] := by decide +kernel
theorem zfw_prime : zfwd (fn_Ref_five 112 114 105 109 101) [112, 114, 105, 109, 101] := by decide +kernel
theorem zfw_close : zfwd (fn_Ref_five 99 108 111 115 101) [99, 108, 111, 115, 101] := by decide +kernel
theorem zfw_open : zfwd (fn_Ref_five 111 112 101 110 0) [111, 112, 101, 110] := by decide +kernel
theorem zfw_to : zfwd (fn_Ref_five 116 111 0 0 0) [116, 111] := by decide +kernel
theorem zfw_0 : zfwd 0 [] := by decide +kernel
theorem zfw_equal : zfwd (fn_Ref_five 101 113 117 97 108) [101, 113, 117, 97, 108] ∧ zfwd (fn_Ref_five 115 0 0 0 0) [115] := by decide +kernel
theorem zfw_down : zfwd (fn_Ref_five 100 111 119 110 116) [100, 111, 119, 110, 116] ∧ zfwd (fn_Ref_five 111 0 0 0 0) [111] := by decide +kernel
theorem zfw_unlik : zfwd (fn_Ref_five 117 110 108 105 107) [117, 110, 108, 105, 107] ∧ zfwd (fn_Ref_five 101 0 0 0 0) [101] := by decide +kernel
theorem rp_fwd {x y : Int32} {w v : List Nat} (hx : zfwd x w) (hy : zfwd y v) (hw : 1 ≤ (w ++ v).length) {c : Int32} {f : Nat → Int32} {P : List Nat} (hs : zrv c f P) (hl : P.length + 12 ≤ 2500) : zwp (fn_Ref_word c f x y) (fun r => zrv r.1 r.2 (P ++ 32 :: (w ++ v))) := by
  obtain ⟨x1, x2, x3⟩ := hx
  obtain ⟨y1, y2, y3⟩ := hy
  exact rp_word1 x1 y1 (by rw [x3, y3]) hw x2 y2 hs hl
theorem rp_spokenRel {k : Nat} (hk : 14 ≤ k ∧ k ≤ 20) {c : Int32} {f : Nat → Int32} {P : List Nat} (hs : zrv c f P) (hl : P.length + 12 ≤ 2500) : zwp (fn_Ref_spokenRelation c f (nI (zka k))) (fun r => zrv r.1 r.2 (P ++ 32 :: zwrd k)) := by
  have ez : ∀ k, k < 25 → 14 ≤ k → k ≤ 20 → (nI (zka k) = 12 ↔ k = 14) ∧ (nI (zka k) = 16 ↔ k = 18) ∧ (nI (zka k) = 17 ↔ k = 19) := by decide
  obtain ⟨z1, z2, z3⟩ := ez k (by omega) hk.1 hk.2
  unfold fn_Ref_spokenRelation
  by_cases e14 : k = 14
  · refine zwp_t (z1.mpr e14) (zwp_ret (rp_fwd zfw_equal.1 zfw_equal.2 (by decide) hs hl) (fun r hr => ?_))
    have e : zwrd k = [101, 113, 117, 97, 108] ++ [115] := by rw [e14]; decide +kernel
    rw [e]; exact hr
  refine zwp_f (fun h => e14 (z1.mp h)) ?_
  by_cases e18 : k = 18
  · refine zwp_t (z2.mpr e18) (zwp_ret (rp_fwd zfw_down.1 zfw_down.2 (by decide) hs hl) (fun r hr => ?_))
    have e : zwrd k = [100, 111, 119, 110, 116] ++ [111] := by rw [e18]; decide +kernel
    rw [e]; exact hr
  refine zwp_f (fun h => e18 (z2.mp h)) ?_
  by_cases e19 : k = 19
  · refine zwp_t (z3.mpr e19) (zwp_ret (rp_fwd zfw_unlik.1 zfw_unlik.2 (by decide) hs hl) (fun r hr => ?_))
    have e : zwrd k = [117, 110, 108, 105, 107] ++ [101] := by rw [e19]; decide +kernel
    rw [e]; exact hr
  refine zwp_f (fun h => e19 (z3.mp h)) ?_
  refine zwp_ret (rp_wordOf (zka_lt k (by omega)) hs hl) (fun r hr => ?_)
  rw [← (zvw_k k (by omega)).2.2 ⟨hk.1, hk.2, e14, e18, e19⟩]; exact hr
section RV
variable {mn : Int32} {ms ml mr mw mro : Nat → Int32} {nd : List (Nat × Nat × Nat × Nat)}
/-- whether a node stands between the two words -/
def zopn (nd : List (Nat × Nat × Nat × Nat)) (a : Nat) : Bool := decide (7 ≤ ((nd[a]?).getD (0, 0, 0, 0)).1 ∧ ((nd[a]?).getD (0, 0, 0, 0)).1 ≤ 13)
def zopl (nd : List (Nat × Nat × Nat × Nat)) (a : Nat) : List (Nat × Nat) := if zopn nd a then [(1, 3000), (0, a), (1, 2000)] else [(0, a)]
/-- a task's text -/
def zvo2 (nd : List (Nat × Nat × Nat × Nat)) (x : Nat × Nat) : List Nat := if x.1 = 0 then 32 :: zvc nd false x.2 else if x.2 = 2000 then zword 37 else if x.2 = 3000 then 32 :: [111, 112, 101, 110] else 32 :: zvw x.2
/-- what a node says at once, and what it leaves for later -/
def zvt2 (q : Nat × Nat × Nat × Nat) : List Nat := if q.1 ≤ 2 then 32 :: zps q else if q.1 ≤ 6 then 32 :: (zsym q.1 ++ (zprs q.2.1 ++ [32, 111, 102])) else []
def zvl2 (nd : List (Nat × Nat × Nat × Nat)) (q : Nat × Nat × Nat × Nat) : List (Nat × Nat) := if q.1 ≤ 2 then [] else if q.1 ≤ 6 then zopl nd q.2.2.1 else if q.1 = 13 then (1, zka 13) :: zopl nd q.2.2.1 else zopl nd q.2.2.1 ++ (1, zka q.1) :: zopl nd q.2.2.2
theorem zcat_app {α : Type} (g : α → List Nat) : ∀ a b : List α, zcat g (a ++ b) = zcat g a ++ zcat g b
  | [], _ => rfl
  | x :: a, b => by
    show g x ++ zcat g (a ++ b) = (g x ++ zcat g a) ++ zcat g b
    rw [zcat_app g a b, List.append_assoc]
theorem zwds : zword 33 = [111, 112, 101, 110, 32] ∧ zword 34 = [109, 105, 110, 117, 115, 32] ∧ zword 35 = [32, 112, 114, 105, 109, 101] ∧ zword 36 = [32, 111, 102, 32] ∧ zword 37 = [32, 99, 108, 111, 115, 101] ∧ zvw (zka 13) = [109, 105, 110, 117, 115] := by decide +kernel
theorem zopl_text (h : znok nd) {a : Nat} (ha : a < nd.length) : zcat (zvo2 nd) (zopl nd a) = 32 :: zvc nd true a := by
  have hq := List.getElem?_eq_getElem ha
  obtain ⟨w33, w34, w35, w36, w37, -⟩ := zwds
  obtain ⟨-, -, l3, l4⟩ := znk_lt (h a _ hq)
  have et : zvo2 nd (0, a) = 32 :: zvc nd false a := rfl
  have e3 : zvo2 nd (1, 3000) = 32 :: [111, 112, 101, 110] := rfl
  have e2 : zvo2 nd (1, 2000) = zword 37 := rfl
  have eo : zopn nd a = decide (7 ≤ nd[a].1 ∧ nd[a].1 ≤ 13) := by unfold zopn; rw [hq]; rfl
  unfold zopl
  rw [eo, zvc_eq h true hq]
  by_cases h7 : 7 ≤ nd[a].1 ∧ nd[a].1 ≤ 13
  · rw [if_pos (decide_eq_true h7)]
    simp only [zcat, et, e3, e2, zvc_eq h false hq]
    rw [if_neg (by omega : ¬ nd[a].1 = 1), if_neg (by omega : ¬ nd[a].1 = 2), if_neg (by omega : ¬ nd[a].1 ≤ 6), if_neg (by omega : ¬ nd[a].1 = 1), if_neg (by omega : ¬ nd[a].1 = 2), if_neg (by omega : ¬ nd[a].1 ≤ 6)]
    simp only [if_true, Bool.false_eq_true, if_false, List.nil_append, List.append_nil, w33]
    simp only [List.cons_append, List.nil_append, List.append_assoc]
  · rw [if_neg (by simpa using h7)]
    simp only [zcat, et, List.append_nil, zvc_eq h false hq]
    by_cases e1 : nd[a].1 = 1
    · rw [if_pos e1, if_pos e1]
    rw [if_neg e1, if_neg e1]
    by_cases e2 : nd[a].1 = 2
    · rw [if_pos e2, if_pos e2]
    rw [if_neg e2, if_neg e2, if_pos (by omega), if_pos (by omega)]
theorem zvo2_plan (h : znok nd) {i : Nat} {q : Nat × Nat × Nat × Nat} (hq : nd[i]? = some q) (W : List (Nat × Nat)) : zvt2 q ++ zcat (zvo2 nd) (zvl2 nd q ++ W) = 32 :: zvc nd false i ++ zcat (zvo2 nd) W := by
  obtain ⟨l1, l2, l3, l4⟩ := znk_lt (h i q hq)
  have hlt := zgetlt hq
  obtain ⟨w33, w34, w35, w36, w37, w13⟩ := zwds
  have es : ∀ v, v ≠ 2000 → v ≠ 3000 → zvo2 nd (1, v) = 32 :: zvw v := fun v h1 h2 => by unfold zvo2; rw [if_neg (show ¬ (1 : Nat) = 0 by decide), if_neg h1, if_neg h2]
  have hz := zka_lt q.1 (by omega)
  rw [zcat_app, zvc_eq h false hq]
  unfold zvt2 zvl2
  by_cases h2 : q.1 ≤ 2
  · rw [if_pos h2, if_pos h2, zps_l (by omega)]
    by_cases h1 : q.1 = 1
    · rw [if_pos h1, if_pos h1]; rfl
    · rw [if_neg h1, if_neg h1, if_pos (by omega)]; rfl
  have hl := l1 h2
  rw [if_neg h2, if_neg h2, if_neg (by omega : ¬ q.1 = 1), if_neg (by omega : ¬ q.1 = 2)]
  by_cases h6 : q.1 ≤ 6
  · rw [if_pos h6, if_pos h6, if_pos h6, zopl_text h (by omega), w36]
    simp only [List.cons_append, List.nil_append, List.append_assoc]
  rw [if_neg h6, if_neg h6, if_neg h6]
  simp only [Bool.false_eq_true, if_false, List.nil_append, List.append_nil]
  by_cases h13 : q.1 = 13
  · rw [if_pos h13, if_pos h13]
    show (zvo2 nd (1, zka 13) ++ zcat (zvo2 nd) (zopl nd q.2.2.1)) ++ _ = _
    rw [es _ (by decide) (by decide), zopl_text h (by omega), w13, w34]
    simp only [List.cons_append, List.nil_append, List.append_assoc]
  · have hr := l2 (by omega)
    rw [if_neg h13, if_neg h13, zcat_app, zopl_text h (by omega)]
    show (32 :: zvc nd true q.2.2.1 ++ (zvo2 nd (1, zka q.1) ++ zcat (zvo2 nd) (zopl nd q.2.2.2))) ++ _ = _
    rw [es _ (by omega) (by omega), zopl_text h (by omega), (zvw_k q.1 (by omega)).1 (by omega)]
    simp only [List.cons_append, List.nil_append, List.append_assoc]
def zc6 (k _d : Nat) : Nat := if k ≤ 2 then 1 else if k ≤ 6 then 3 else if k = 13 then 4 else 6
theorem zc6_le (k d : Nat) (_ : 1 ≤ k) (_ : k ≤ 13) : zc6 k d ≤ 6 * zc1 k d := by
  unfold zc6 zc1
  rw [if_neg (by omega : ¬ k = 22)]
  repeat' split
  all_goals omega
def zrv6 (nd : List (Nat × Nat × Nat × Nat)) (x : Nat × Nat) : Nat := if x.1 = 0 then zTt zc6 nd x.2 else 1
def zvok (nd : List (Nat × Nat × Nat × Nat)) (x : Nat × Nat) : Prop := (x.1 = 0 ∧ x.2 < nd.length) ∨ (x.1 = 1 ∧ (x.2 = 2000 ∨ x.2 = 3000 ∨ (0 < x.2 ∧ x.2 < 24)))
theorem zopl_steps {a : Nat} (ha : a < nd.length) : zsu (zrv6 nd) (zopl nd a) ≤ zTt zc6 nd a + 2 ∧ (∀ x ∈ zopl nd a, zvok nd x) := by
  have e0 : zrv6 nd (0, a) = zTt zc6 nd a := rfl
  have e1 : ∀ v, zrv6 nd (1, v) = 1 := fun v => rfl
  unfold zopl
  split
  · simp only [zsu, e0, e1]
    refine ⟨by omega, fun x hx => ?_⟩
    simp only [List.mem_cons, List.mem_nil_iff, or_false] at hx
    rcases hx with rfl | rfl | rfl
    · exact Or.inr ⟨rfl, Or.inr (Or.inl rfl)⟩
    · exact Or.inl ⟨rfl, ha⟩
    · exact Or.inr ⟨rfl, Or.inl rfl⟩
  · simp only [zsu, e0]
    refine ⟨by omega, fun x hx => ?_⟩
    simp only [List.mem_cons, List.mem_nil_iff, or_false] at hx
    subst hx
    exact Or.inl ⟨rfl, ha⟩
theorem zvl2_steps (h : znok nd) {i : Nat} {q : Nat × Nat × Nat × Nat} (hq : nd[i]? = some q) : zsu (zrv6 nd) (zvl2 nd q) + 1 ≤ zTt zc6 nd i ∧ (∀ x ∈ zvl2 nd q, zvok nd x) := by
  obtain ⟨l1, l2, l3, l4⟩ := znk_lt (h i q hq)
  have hlt := zgetlt hq
  have e1 : ∀ v, zrv6 nd (1, v) = 1 := fun v => rfl
  have hz : ∀ k, k < 14 → 7 ≤ k → 0 < zka k ∧ zka k < 24 := by decide
  rw [zTt_eq zc6 h hq, show zc6 q.1 q.2.1 = (if q.1 ≤ 2 then 1 else if q.1 ≤ 6 then 3 else if q.1 = 13 then 4 else 6) from rfl]
  unfold zvl2
  by_cases h2 : q.1 ≤ 2
  · rw [if_pos h2, if_pos h2]
    simp only [zsu]
    exact ⟨by omega, fun x hx => by simp at hx⟩
  have hl := l1 h2
  obtain ⟨s1, s2⟩ := zopl_steps (nd := nd) (a := q.2.2.1) (by omega)
  rw [if_neg h2, if_neg h2, if_neg h2]
  by_cases h6 : q.1 ≤ 6
  · rw [if_pos h6, if_pos h6]
    exact ⟨by omega, s2⟩
  rw [if_neg h6, if_neg h6]
  by_cases h13 : q.1 = 13
  · rw [if_pos h13, if_pos h13]
    simp only [zsu, e1]
    refine ⟨by omega, fun x hx => ?_⟩
    rcases List.mem_cons.mp hx with rfl | hx
    · exact Or.inr ⟨rfl, Or.inr (Or.inr (hz 13 (by omega) (by omega)))⟩
    · exact s2 x hx
  · have hr := l2 (by omega)
    obtain ⟨r1, r2⟩ := zopl_steps (nd := nd) (a := q.2.2.2) (by omega)
    rw [if_neg h13, if_neg h13, if_pos (by omega : 7 ≤ q.1 ∧ q.1 ≤ 12), zsu_app]
    simp only [zsu, e1]
    refine ⟨by omega, fun x hx => ?_⟩
    rcases List.mem_append.mp hx with hx | hx
    · exact s2 x hx
    · rcases List.mem_cons.mp hx with rfl | hx
      · exact Or.inr ⟨rfl, Or.inr (Or.inr (hz q.1 (by omega) (by omega)))⟩
      · exact r2 x hx
theorem rp_isOpened (hr : zrt mn ms ml mr mw nd) (hok : znok nd) {a : Nat} (ha : a < nd.length) : fn_Ref_isOpened ms (nI a) = some (if zopn nd a then 1 else 0) := by
  have hcap := hr.2.1
  have hq := List.getElem?_eq_getElem ha
  obtain ⟨-, -, l3, l4⟩ := znk_lt (hok a _ hq)
  have eo : zopn nd a = decide (7 ≤ nd[a].1 ∧ nd[a].1 ≤ 13) := by unfold zopn; rw [hq]; rfl
  have ee : ∀ m, m < 100 → (nI (zka nd[a].1) = nI m ↔ zka nd[a].1 = m) := fun m hm => nI_inj (by have := zka_lt nd[a].1 (by omega); omega) (by omega)
  have hz : ∀ k, k < 25 → (zka k = 22 ↔ k = 12) ∧ (zka k = 23 ↔ k = 13) := by decide
  have h22 : nI (zka nd[a].1) = 22 ↔ nd[a].1 = 12 := (ee 22 (by omega)).trans (hz _ (by omega)).1
  have h23 : nI (zka nd[a].1) = 23 ↔ nd[a].1 = 13 := (ee 23 (by omega)).trans (hz _ (by omega)).2
  have hin := (zka_k2 nd[a].1 (by omega)).1
  have hb := nI_in2 (c := a) (N := 200) (by omega) (by omega)
  unfold fn_Ref_isOpened
  simp only [nI_clamp (show a < 2 ^ 31 by omega), if_neg hb, hr.2.2.1 a _ hq]
  rw [eo]
  by_cases h11 : 7 ≤ nd[a].1 ∧ nd[a].1 ≤ 11
  · rw [if_neg (fun h => hin.mp h h11), if_pos (decide_eq_true (by omega))]
  rw [if_pos (hin.mpr h11)]
  by_cases h12 : nd[a].1 = 12
  · rw [if_pos (h22.mpr h12), if_pos (decide_eq_true (by omega))]
  rw [if_neg (fun h => h12 (h22.mp h))]
  by_cases h13 : nd[a].1 = 13
  · rw [if_pos (h23.mpr h13), if_pos (decide_eq_true (by omega))]
  rw [if_neg (fun h => h13 (h23.mp h)), if_neg (by simp; omega)]
theorem rp_opLater (hr : zrt mn ms ml mr mw nd) (hok : znok nd) {a : Nat} (ha : a < nd.length) {x : Int32} (hx : x = nI a) {tc : Int32} {t : Nat → Int32} {W : List (Nat × Nat)} (hW : ztk2 tc t W) (hl : W.length + 3 ≤ 1000) : zwp (fn_Ref_operandLater tc ms t x) (fun r => ztk2 r.1 r.2 (zopl nd a ++ W)) := by
  subst hx
  unfold fn_Ref_operandLater zopl
  rw [rp_isOpened hr hok ha, Option.bind_some]
  cases zopn nd a with
  | false => exact zwp_t rfl (zwp_ret (rp_later (0, a) hW (by omega) rfl) (fun r hr => hr))
  | true =>
    refine zwp_f (by decide) ?_
    refine zwp_seq (rp_later (1, 2000) hW (by omega) (by decide)) (fun r1 h1 => ?_)
    refine zwp_seq (rp_later (0, a) h1 (by simp only [List.length_cons]; omega) rfl) (fun r2 h2 => ?_)
    exact zwp_ret (rp_later (1, 3000) h2 (by simp only [List.length_cons]; omega) (by decide)) (fun r hr => hr)
theorem rp_sprimes (hr : zrt mn ms ml mr mw nd) {i : Nat} {q : Nat × Nat × Nat × Nat} (hi : nd[i]? = some q) (hk : 3 ≤ q.1 ∧ q.1 ≤ 6) (hd : q.2.1 ≤ 3) : ∀ (n j : Nat) (oc tc : Int32) (o t : Nat → Int32) (P : List Nat), j ≤ q.2.1 → q.2.1 - j < n → zrv oc o P → P.length + 6 * (q.2.1 - j) + 12 ≤ 2490 →
    zwp (fn_Ref_speaks_L72 ms ml mr mw n oc tc o t (nI i) (nI j)) (fun r => zrv r.1 r.2.2.1 (P ++ (zprs (q.2.1 - j) ++ [32, 111, 102])) ∧ r.2.1 = tc ∧ r.2.2.2 = t)
  | 0, _, _, _, _, _, _, _, h, _, _ => absurd h (Nat.not_lt_zero _)
  | n + 1, j, oc, tc, o, t, P, hj, hn, hs, hl => by
    have hlt := zgetlt hi
    have hcap := hr.2.1
    unfold fn_Ref_speaks_L72
    have hw : mw i / 4 = nI q.2.1 := by
      rw [hr.2.2.2.2.2 i q hi]
      unfold zrh zwt
      rw [if_neg (by omega), if_pos hk, show (4 : Int32) = nI 4 from rfl, nI_divz (by omega) (by omega) (by omega)]
      congr 1; omega
    rw [nI_clamp (by omega : i < 2 ^ 31), hw]
    refine zwp_f (nI_in2 (by omega) (by omega)) ?_
    by_cases he : j = q.2.1
    · refine zwp_t (nI_le (by omega) (by omega)) ?_
      have e : zprs (q.2.1 - j) = [] := by rw [he, Nat.sub_self]; rfl
      rw [e, List.nil_append]
      exact zwp_ret (rp_fwd zfw_of zfw_0 (by decide) hs (by omega)) (fun r hr => ⟨hr, rfl, rfl⟩)
    · refine zwp_f (nI_ge (by omega) (by omega)) (zwp_seq (rp_fwd zfw_prime zfw_0 (by decide) hs (by omega)) (fun r hr' => ?_))
      rw [nI_add1]
      refine zwp_mono (rp_sprimes hr hi hk hd n (j + 1) _ tc _ t _ (by omega) (by omega) hr' (by rw [List.length_append]; simp only [List.length_cons, List.length_append, List.length_nil]; omega)) (fun u hu => ⟨?_, hu.2⟩)
      have h1 := hu.1
      rw [show q.2.1 - j = (q.2.1 - (j + 1)) + 1 by omega, zprs, zwds.2.2.1]
      rw [List.append_assoc] at h1
      exact h1
theorem zps_len {q : Nat × Nat × Nat × Nat} (h : q.1 = 1 ∨ q.1 = 2) : 1 ≤ (zps q).length ∧ (zps q).length ≤ 6 := by
  rw [zps_l h]
  split
  · rw [zdigs_len]; unfold zndig; repeat' split
    all_goals omega
  · exact ⟨Nat.le_refl _, Nat.le_add_left 1 5⟩
theorem rp_speaks (hr : zrt mn ms ml mr mw nd) (hok : znok nd) {i : Nat} {q : Nat × Nat × Nat × Nat} (hi : nd[i]? = some q) {oc tc : Int32} {o t : Nat → Int32} {P : List Nat} {W : List (Nat × Nat)} (hs : zrv oc o P) (hW : ztk2 tc t W) (hl : P.length + (zvt2 q).length ≤ 2450) (hWl : W.length + 8 ≤ 1000) :
    zwp (fn_Ref_speaks oc tc ms ml mr mw o t (nI i)) (fun r => zrv r.1 r.2.2.1 (P ++ zvt2 q) ∧ ztk2 r.2.1 r.2.2.2 (zvl2 nd q ++ W)) := by
  have hlt := zgetlt hi
  have hcap := hr.2.1
  have hq := hok i q hi
  obtain ⟨l1, l2, l3, l4⟩ := znk_lt hq
  have hr' := hr
  obtain ⟨hmn, -, h1, h2, h3, h4⟩ := hr'
  have hin := nI_in2 (c := i) (N := 200) (by omega) (by omega)
  have hzl := zka_lt q.1 (by omega)
  have ee : ∀ m, m < 100 → (nI (zka q.1) = nI m ↔ zka q.1 = m) := fun m hm => nI_inj (by omega) (by omega)
  obtain ⟨v1, v2, v3, v4, v5, v6⟩ := zka_k1 q.1 (by omega)
  have e1 := (ee 1 (by omega)).trans v1
  have e2 := (ee 2 (by omega)).trans v2
  have e3 := (ee 3 (by omega)).trans v3
  have b20 : q.1 = 1 ∨ q.1 = 2 → zwp (fn_Ref_speaks_b20 ms ml mr mw oc tc o t (nI i)) (fun r => zrv r.1 r.2.2.1 (P ++ zvt2 q) ∧ ztk2 r.2.1 r.2.2.2 (zvl2 nd q ++ W)) := by
    intro h12
    have et : zvt2 q = 32 :: zps q := by unfold zvt2; rw [if_pos (by omega)]
    have el : zvl2 nd q = [] := by unfold zvl2; rw [if_pos (by omega)]
    have er : zrps q = zps q := by unfold zrps; rw [if_neg (by omega)]
    have erl : zrpl q = [] := by unfold zrpl; rw [if_pos (by omega)]
    obtain ⟨p1, p2⟩ := zps_len h12
    rw [et] at hl
    simp only [List.length_cons] at hl
    rw [et, el]
    unfold fn_Ref_speaks_b20
    refine zwp_seq (rp_blank hs (by omega)) (fun r1 hr1 => ?_)
    refine zwp_ret (rp_prints hr hi hq hr1 hW (by rw [er]; simp only [List.length_drop, List.length_append, List.length_cons, List.length_nil]; omega) (by omega)) (fun r hr => ?_)
    rw [er, erl] at hr
    exact ⟨zrv_put hr.1 p1, hr.2⟩
  unfold fn_Ref_speaks
  simp only [nI_clamp (show i < 2 ^ 31 by omega), if_neg hin, h1 i q hi, h2 i q hi, h3 i q hi, h4 i q hi]
  by_cases k1 : q.1 = 1
  · exact zwp_t (e1.mpr k1) (b20 (Or.inl k1))
  refine zwp_f (fun h => k1 (e1.mp h)) ?_
  by_cases k2 : q.1 = 2
  · exact zwp_t (e2.mpr k2) (b20 (Or.inr k2))
  refine zwp_f (fun h => k2 (e2.mp h)) ?_
  have hll := l1 (by omega)
  unfold zvt2 at hl ⊢
  unfold zvl2
  rw [if_neg (by omega : ¬ q.1 ≤ 2)] at hl ⊢
  rw [if_neg (by omega : ¬ q.1 ≤ 2)]
  have ol : ∀ a, (zopl nd a).length ≤ 3 := fun a => by unfold zopl; split <;> simp
  by_cases k3 : 3 ≤ q.1 ∧ q.1 ≤ 6
  · have hd : q.2.1 ≤ 3 := by unfold znk at hq; rcases hq with ⟨h, -⟩ | ⟨h, -⟩ | ⟨-, -, h, -⟩ | ⟨h, -⟩ | ⟨h, -⟩ <;> omega
    rw [if_pos k3.2] at hl ⊢
    rw [if_pos k3.2]
    have hrr : zrr q = nI q.2.2.1 := by unfold zrr; rw [if_neg (by omega), if_neg (by omega)]
    refine zwp_seq (rp_opLater hr hok (a := q.2.2.1) (by omega) hrr hW (by omega)) (fun r1 hr1 => ?_)
    refine zwp_t (e3.mpr k3) ?_
    have hsl := (zsym_len q.1 (by omega)).1 k3
    simp only [List.length_append, List.length_cons, List.length_nil, zprs_len] at hl
    have hm : ∀ k, k < 7 → 3 ≤ k → ∀ p, p < 4 → nI (k - 3 + 4 * p) - nI (k - 3 + 4 * p) / 4 * 4 = nI (k - 3) := by decide +kernel
    have e0 : zrh q = nI (q.1 - 3 + 4 * q.2.1) := by unfold zrh zwt; rw [if_neg (by omega), if_pos k3]
    rw [e0, hm q.1 (by omega) k3.1 q.2.1 (by omega)]
    refine zwp_seq (rp_blank hs (by omega)) (fun r2 hr2 => ?_)
    refine zwp_seq (rp_name k3 hr2 (by simp only [List.length_drop, List.length_append, List.length_cons, List.length_nil]; omega)) (fun r3 hr3 => ?_)
    refine zwp_mono (rp_sprimes hr hi k3 hd zFU 0 _ _ _ _ _ (Nat.zero_le _) (Nat.lt_of_le_of_lt (by omega : q.2.1 - 0 ≤ 3) (by decide)) (zrv_put hr3 (by omega)) (by simp only [List.length_append, List.length_cons]; omega)) (fun u hu => ⟨?_, ?_⟩)
    · have := hu.1
      rw [Nat.sub_zero, List.append_assoc] at this; exact this
    · rw [hu.2.1, hu.2.2]; exact hr1
  rw [if_neg (by omega : ¬ q.1 ≤ 6)]
  rw [if_neg (by omega : ¬ q.1 ≤ 6), List.append_nil]
  have hnsub : ∀ k, k < 14 → 7 ≤ k → -(nI (zka k)) = ztg (1, zka k) := fun k _ _ => rfl
  by_cases k13 : q.1 = 13
  · have hrr : zrr q = nI q.2.2.1 := by unfold zrr; rw [if_neg (by omega), if_neg (by omega)]
    have ezl : zrl q = -3 := by unfold zrl; rw [if_neg (by omega)]
    rw [if_pos k13]
    refine zwp_seq (rp_opLater hr hok (a := q.2.2.1) (by omega) hrr hW (by omega)) (fun r1 hr1 => ?_)
    refine zwp_f (fun h => k3 (e3.mp h)) ?_
    have := ol q.2.2.1
    refine zwp_seq (rp_later (1, zka 13) hr1 (by rw [List.length_append]; omega) (by rw [k13]; rfl)) (fun r2 hr2 => ?_)
    exact zwp_t ezl (zwp_some ⟨hs, hr2⟩)
  · have hb : 7 ≤ q.1 ∧ q.1 ≤ 12 := by omega
    have hrl := l2 hb
    have hrr : zrr q = nI q.2.2.2 := by unfold zrr; rw [if_pos hb]
    have ezl : zrl q = nI q.2.2.1 := by unfold zrl; rw [if_pos hb]
    rw [if_neg k13]
    refine zwp_seq (rp_opLater hr hok (a := q.2.2.2) (by omega) hrr hW (by omega)) (fun r1 hr1 => ?_)
    refine zwp_f (fun h => k3 (e3.mp h)) ?_
    have := ol q.2.2.2
    refine zwp_seq (rp_later (1, zka q.1) hr1 (by rw [List.length_append]; omega) rfl) (fun r2 hr2 => ?_)
    refine zwp_f (by rw [ezl]; exact nI_ne_neg (by omega) (by decide)) ?_
    refine zwp_ret (rp_opLater hr hok (a := q.2.2.1) (by omega) ezl hr2 (by rw [List.length_cons, List.length_append]; omega)) (fun r hr => ⟨hs, ?_⟩)
    rw [List.append_assoc]; exact hr
end RV
section RV
variable {mn : Int32} {ms ml mr mw mro : Nat → Int32} {nd : List (Nat × Nat × Nat × Nat)}
theorem zTt6_pos (h : znok nd) {i : Nat} (hi : i < nd.length) : 1 ≤ zTt zc6 nd i := by
  rw [zTt_eq zc6 h (List.getElem?_eq_getElem hi)]
  have : 1 ≤ zc6 nd[i].1 nd[i].2.1 := by unfold zc6; repeat' split
                                         all_goals omega
  omega
theorem zrv6_pos (h : znok nd) {x : Nat × Nat} (hx : zvok nd x) : 1 ≤ zrv6 nd x := by
  unfold zrv6
  rcases hx with ⟨h0, h1⟩ | ⟨h0, -⟩
  · rw [if_pos h0]; exact zTt6_pos h h1
  · rw [if_neg (by omega)]; exact Nat.le_refl _
theorem zsu_len3 (h : znok nd) : ∀ W : List (Nat × Nat), (∀ x ∈ W, zvok nd x) → W.length ≤ zsu (zrv6 nd) W
  | [], _ => Nat.le_refl _
  | x :: W, hW => by
    have h1 := zrv6_pos h (hW x (by simp))
    have h2 := zsu_len3 h W (fun y hy => hW y (by simp [hy]))
    simp only [zsu, List.length_cons]; omega
theorem rp_spkl (hr : zrt mn ms ml mr mw nd) (hok : znok nd) : ∀ (n : Nat) (W : List (Nat × Nat)) (oc tc : Int32) (o t : Nat → Int32) (P : List Nat),
    zsu (zrv6 nd) W < n → zsu (zrv6 nd) W ≤ 970 → zrv oc o P → ztk2 tc t W → (∀ x ∈ W, zvok nd x) → P.length + (zcat (zvo2 nd) W).length ≤ 2400 →
    zwp (fn_Ref_speakSum_L15 ms ml mr mw mro n oc tc o t) (fun r => zrv r.1 r.2.2.1 (P ++ zcat (zvo2 nd) W))
  | 0, _, _, _, _, _, _, h, _, _, _, _, _ => absurd h (Nat.not_lt_zero _)
  | n + 1, W, oc, tc, o, t, P, hn, h9, hs, hW, hv, hl => by
    have hcap := hr.2.1
    unfold fn_Ref_speakSum_L15 fn_Ref_speakSum_b119
    cases W with
    | nil =>
      refine zwp_t (by rw [hW.1]; exact Int32.le_refl _) (zwp_some ?_)
      show zrv oc o (P ++ [])
      rw [List.append_nil]; exact hs
    | cons x W =>
      have hx := hv x (by simp)
      have hvt : ∀ y ∈ W, zvok nd y := fun y hy => hv y (by simp [hy])
      have hp := zrv6_pos hok hx
      have hWl := zsu_len3 hok W hvt
      have hn' : zrv6 nd x + zsu (zrv6 nd) W < n + 1 := hn
      have h9' : zrv6 nd x + zsu (zrv6 nd) W ≤ 970 := h9
      have hl' : P.length + (zvo2 nd x ++ zcat (zvo2 nd) W).length ≤ 2400 := hl
      rw [List.length_append] at hl'
      obtain ⟨hWc, hWs⟩ := hW
      have e1 : tc - 1 = nI W.length := by rw [hWc, List.length_cons, nI_sub1]
      have hWt : ztk2 (nI W.length) t W := ⟨rfl, hWs.2⟩
      refine zwp_f (by rw [hWc, List.length_cons]; exact nI_ge (a := 0) (by omega) (by omega)) ?_
      rw [e1, nI_clamp (by omega : W.length < 2 ^ 31), hWs.1]
      refine zwp_f (nI_in2 (by omega) (by omega)) ?_
      have hstep : ∀ c' f', zrv c' f' (P ++ zvo2 nd x) → zwp (fn_Ref_speakSum_L15 ms ml mr mw mro n c' (nI W.length) f' t) (fun r => zrv r.1 r.2.2.1 (P ++ zcat (zvo2 nd) (x :: W))) := by
        intro c' f' h
        refine zwp_mono (rp_spkl hr hok n W _ _ _ _ _ (by omega) (by omega) h hWt hvt (by rw [List.length_append]; omega)) (fun u hu => ?_)
        rw [List.append_assoc] at hu; exact hu
      obtain ⟨w33, w34, w35, w36, w37, w13⟩ := zwds
      rcases hx with ⟨h0, hx2⟩ | ⟨h0, hx3⟩
      · have eg : ztg x = nI x.2 := by unfold ztg; rw [if_pos h0]
        have eo : zvo2 nd x = 32 :: zvc nd false x.2 := by unfold zvo2; rw [if_pos h0]
        have es : zrv6 nd x = zTt zc6 nd x.2 := by unfold zrv6; rw [if_pos h0]
        rw [eg]
        have hq := List.getElem?_eq_getElem hx2
        obtain ⟨s1, s2⟩ := zvl2_steps hok hq
        have hpl := zvo2_plan hok hq W
        have hlen := congrArg List.length hpl
        rw [List.length_append, List.length_append] at hlen
        refine zwp_f (nI_ne_neg (by omega) (by decide)) (zwp_f (nI_ne_neg (by omega) (by decide)) (zwp_t (nI_pos' (by omega)) ?_))
        refine zwp_seq (rp_speaks hr hok hq hs hWt (by rw [eo] at hl'; omega) (by omega)) (fun r hr' => ?_)
        refine zwp_mono (rp_spkl hr hok n _ _ _ _ _ _ (by rw [zsu_app]; omega) (by rw [zsu_app]; omega) hr'.1 hr'.2 (fun y hy => by
          rcases List.mem_append.mp hy with h | h
          · exact s2 y h
          · exact hvt y h) (by rw [eo] at hl'; rw [List.length_append]; omega)) (fun u hu => ?_)
        rw [List.append_assoc, hpl, ← eo] at hu
        exact hu
      · have eg : ztg x = -(nI x.2) := by unfold ztg; rw [if_neg (by omega)]
        rw [eg]
        rcases hx3 with h3 | h3 | ⟨h3, h4⟩
        · have eo : zvo2 nd x = 32 :: [99, 108, 111, 115, 101] := by unfold zvo2; rw [if_neg (by omega), if_pos h3, w37]
          refine zwp_t (by rw [h3]; decide) (zwp_seq (rp_fwd zfw_close zfw_0 (by decide) hs (by rw [eo] at hl'; simp only [List.length_cons, List.length_nil] at hl'; omega)) (fun r hr' => hstep _ _ ?_))
          rw [eo]; exact hr'
        · have eo : zvo2 nd x = 32 :: [111, 112, 101, 110] := by unfold zvo2; rw [if_neg (by omega), if_neg (by omega), if_pos h3]
          refine zwp_f (by rw [h3]; decide) (zwp_t (by rw [h3]; decide) (zwp_seq (rp_fwd zfw_open zfw_0 (by decide) hs (by rw [eo] at hl'; simp only [List.length_cons, List.length_nil] at hl'; omega)) (fun r hr' => hstep _ _ ?_)))
          rw [eo]; exact hr'
        · have eo : zvo2 nd x = 32 :: zvw x.2 := by unfold zvo2; rw [if_neg (by omega), if_neg (by omega), if_neg (by omega)]
          have hneg : ∀ k, k < 24 → 0 < k → ¬ -(nI k) = -2000 ∧ ¬ -(nI k) = -3000 ∧ ¬ (0 : Int32) ≤ -(nI k) := by decide +kernel
          obtain ⟨g1, g2, g3⟩ := hneg x.2 h4 h3
          rw [Int32.neg_neg]
          refine zwp_f g1 (zwp_f g2 (zwp_f g3 (zwp_seq (rp_wordOf h4 hs (by rw [eo] at hl'; have := (zvw_tab x.2 h4).2.2.1; simp only [List.length_cons] at hl'; omega)) (fun r hr' => hstep _ _ ?_))))
          rw [eo]; exact hr'
/-- a sum, spoken by the reference -/
theorem rp_speakSum {S : List (Nat × Nat)} (hr : zrt mn ms ml mr mw nd) (hok : znok nd) (hS : S.length ≤ 9) (hro : zrw mro (fun q => nI q.2) S) {i : Nat} {q : Nat × Nat} (hi : S[i]? = some q) (hq : q.2 < nd.length) (h1 : zTt zc1 nd q.2 ≤ 160) {oc tc : Int32} {o t : Nat → Int32} {P : List Nat} (hs : zrv oc o P) (hl : P.length + (32 :: zvc nd false q.2).length ≤ 2400) :
    zwp (fn_Ref_speakSum oc tc ms ml mr mw mro o t (nI i)) (fun r => zrv r.1 r.2.2.1 (P ++ 32 :: zvc nd false q.2)) := by
  have hlt := zgetlt hi
  have h3 := zT_le zc6 zc1 6 zc6_le hok (q.2 + 1) q.2 (by omega) hq
  unfold fn_Ref_speakSum
  rw [nI_clamp (by omega : i < 2 ^ 31), hro i q hi]
  refine zwp_f (nI_in2 (by omega) (by omega)) ?_
  refine zwp_seq (rp_later (W := []) (0, q.2) ⟨rfl, True.intro⟩ (by decide) rfl) (fun r hr' => ?_)
  have e1 : zsu (zrv6 nd) [(0, q.2)] = zTt zc6 nd q.2 := Nat.add_zero _
  have e2 : zcat (zvo2 nd) [(0, q.2)] = 32 :: zvc nd false q.2 := List.append_nil _
  have := rp_spkl (mro := mro) hr hok zFU [(0, q.2)] oc _ o _ P (by rw [e1]; exact Nat.lt_of_le_of_lt (by omega : _ ≤ 960) (by decide)) (by rw [e1]; omega) hs hr' (by intro x hx; rw [List.mem_singleton] at hx; subst hx; exact Or.inl ⟨rfl, hq⟩) (by rw [e2]; exact hl)
  rw [e2] at this
  exact this
end RV
section RQ
variable {mn : Int32} {ms ml mr mw mro mre : Nat → Int32} {nd : List (Nat × Nat × Nat × Nat)} {S : List (Nat × Nat)} {J : List Nat}
theorem zwrd21 : zwrd 21 = [116, 111] := by decide +kernel
theorem rp_spl (mk ma mod' moo' mof : Nat → Int32) (tk : Int32) (hr : zrt mn ms ml mr mw nd) (hok : znok nd) (hJ : S.map (fun q => q.1) = 0 :: J) (hlk : zlk J) (h9 : S.length ≤ 9) (h4 : (zR J).length ≤ 4) (hro : zrw mro (fun q => nI q.2) S) (hre : zrw mre (fun k => nI (zka k)) (zR J)) (hrt : ∀ q ∈ S, q.2 < nd.length) (h1 : ∀ q ∈ S, zTt zc1 nd q.2 ≤ 160) (a2 a4 a5 : Int32) : ∀ (n i : Nat) (oc tc : Int32) (o t : Nat → Int32) (P : List Nat),
    i ≤ (zR J).length → (zR J).length - i < n → zrv oc o P → P.length + (zvall nd (S.drop (zpos (zR J) i + 1))).length ≤ 2300 →
    zwp (fn_Ref_speak_L19 tk mk ma n mn a2 (nI (zR J).length) a4 a5 oc tc ms ml mr mw mro mre mod' moo' mof o t (nI (zpos (zR J) i + 1)) (nI i)) (fun r => r.1 = mn ∧ zrv r.2.2.2.2.2.1 r.2.2.2.2.2.2.2.2.2.2.2.2.2.2.2.2.1 (P ++ zvall nd (S.drop (zpos (zR J) i + 1))))
  | 0, _, _, _, _, _, _, _, h, _, _ => absurd h (Nat.not_lt_zero _)
  | n + 1, i, oc, tc, o, t, P, hi, hn, hs, hl => by
    have hlen : J.length + 1 = S.length := by rw [← List.length_map (f := fun q : Nat × Nat => q.1), hJ]; rfl
    unfold fn_Ref_speak_L19 fn_Ref_speak_b79
    by_cases he : i = (zR J).length
    · refine zwp_t (nI_le (by omega) (by omega)) (zwp_some ⟨rfl, ?_⟩)
      rw [he, zpos_end J.length J (Nat.le_refl _) hlk, List.drop_eq_nil_of_le (by omega)]
      show zrv oc o (P ++ [])
      rw [List.append_nil]; exact hs
    · have hlt : i < (zR J).length := by omega
      have hk := List.getElem?_eq_getElem hlt
      obtain ⟨p1, p2, p3, p4⟩ := zpos_at J.length J (Nat.le_refl _) hlk i _ hk
      have hnx := zpos_next (zR J) i _ hk
      generalize (zR J)[i] = k at *
      have hslt := zgetlt p1
      have hqlt : zpos (zR J) i + 1 < S.length := by omega
      have hq := List.getElem?_eq_getElem hqlt
      have hq1 : S[zpos (zR J) i + 1].1 = k := by
        have := zsj hJ hq
        rw [List.getElem?_cons_succ, p1] at this
        exact (Option.some.inj this).symm
      have hm : S[zpos (zR J) i + 1] ∈ S := List.getElem_mem hqlt
      have hd : S.drop (zpos (zR J) i + 1) = S[zpos (zR J) i + 1] :: S.drop (zpos (zR J) i + 1 + 1) := List.drop_eq_getElem_cons hqlt
      have hP : zvall nd (S.drop (zpos (zR J) i + 1)) = 32 :: zwrd k ++ (32 :: zvc nd false S[zpos (zR J) i + 1].2 ++ zvall nd (S.drop (zpos (zR J) i + 1 + 1))) := by
        rw [hd]
        show zvj S[zpos (zR J) i + 1].1 ++ _ = _
        rw [hq1]
        unfold zvj
        rw [if_neg (by omega)]
        simp only [List.cons_append, List.append_assoc, List.nil_append]
      have hwl := (zwrd_len k (by omega)).2 (by omega)
      rw [hP] at hl ⊢
      rw [List.length_append, List.length_append] at hl
      generalize zpos (zR J) i = s at *
      have hin := nI_in2 (c := i) (N := 4) (by omega) (by omega)
      refine zwp_f (nI_ge hlt (by omega)) ?_
      rw [nI_clamp (by omega : i < 2 ^ 31), hre i k hk]
      refine zwp_f hin ?_
      refine zwp_seq (rp_spokenRel ⟨p3, p4⟩ hs (by omega)) (fun r1 hr1 => ?_)
      refine zwp_seq (rp_speakSum hr hok h9 hro hq (hrt _ hm) (h1 _ hm) hr1 (by rw [List.length_append]; omega)) (fun r2 hr2 => ?_)
      refine zwp_f hin ?_
      have hz18 : nI (zka k) = 18 ↔ k = 20 := by
        have : ∀ k, k < 25 → 14 ≤ k → (nI (zka k) = 18 ↔ k = 20) := by decide
        exact this k (by omega) p3
      by_cases h20 : k = 20
      · rw [if_pos h20] at hnx
        have h21 := p2 h20
        have hq2lt : s + 1 + 1 < S.length := by have := zgetlt h21; omega
        have hq2 := List.getElem?_eq_getElem hq2lt
        have hq21 : S[s + 1 + 1].1 = 21 := by
          have := zsj hJ hq2
          rw [List.getElem?_cons_succ, h21] at this
          exact (Option.some.inj this).symm
        have hm2 : S[s + 1 + 1] ∈ S := List.getElem_mem hq2lt
        have hd2 : S.drop (s + 1 + 1) = S[s + 1 + 1] :: S.drop (s + 1 + 1 + 1) := List.drop_eq_getElem_cons hq2lt
        have hP2 : zvall nd (S.drop (s + 1 + 1)) = 32 :: [116, 111] ++ (32 :: zvc nd false S[s + 1 + 1].2 ++ zvall nd (S.drop (s + 1 + 1 + 1))) := by
          rw [hd2]
          show zvj S[s + 1 + 1].1 ++ _ = _
          rw [hq21]
          unfold zvj
          rw [if_neg (by omega), zwrd21]
          simp only [List.cons_append, List.append_assoc, List.nil_append]
        rw [hP2] at hl ⊢
        rw [List.length_append (as := 32 :: [116, 111]), List.length_append] at hl
        have h3l : (32 :: [116, 111]).length = 3 := rfl
        have l2 : (P ++ 32 :: zwrd k ++ 32 :: zvc nd false S[s + 1].2).length = P.length + (32 :: zwrd k).length + (32 :: zvc nd false S[s + 1].2).length := by rw [List.length_append, List.length_append]
        refine zwp_t (hz18.mpr h20) ?_
        have hlw : 1 ≤ (32 :: zvc nd false S[s + 1 + 1].2).length := by simp
        by_cases hroom : (P ++ 32 :: zwrd k ++ 32 :: zvc nd false S[s + 1].2).length + 12 ≤ 2500
        · refine zwp_seq (rp_fwd zfw_to zfw_0 (by decide) hr2 hroom) (fun r3 hr3 => ?_)
          rw [nI_add1]
          refine zwp_seq (rp_speakSum hr hok h9 hro hq2 (hrt _ hm2) (h1 _ hm2) hr3 (by rw [List.length_append (bs := 32 :: ([116, 111] ++ []))]; show _ + 3 + _ ≤ 2400; omega)) (fun r5 hr5 => ?_)
          rw [nI_add1, nI_add1]
          have := rp_spl mk ma mod' moo' mof tk hr hok hJ hlk h9 h4 hro hre hrt h1 a2 a4 a5 n (i + 1) _ r5.2.1 _ r5.2.2.2 _ (by omega) (by omega) hr5 (by rw [hnx, show s + 2 + 1 = s + 1 + 1 + 1 from rfl]; rw [List.length_append (bs := 32 :: zvc nd false S[s + 1 + 1].2), List.length_append (bs := 32 :: ([116, 111] ++ []))]; show _ + 3 + _ + _ ≤ 2300; omega)
          rw [hnx, show s + 2 + 1 = s + 1 + 1 + 1 from rfl] at this
          refine zwp_mono this (fun u hu => ⟨hu.1, ?_⟩)
          have h7 := hu.2
          simp only [List.append_assoc, List.cons_append, List.nil_append, List.append_nil] at h7 ⊢
          exact h7
        · omega
      · rw [if_neg h20] at hnx
        refine zwp_f (fun h => h20 (hz18.mp h)) ?_
        rw [nI_add1, nI_add1]
        have := rp_spl mk ma mod' moo' mof tk hr hok hJ hlk h9 h4 hro hre hrt h1 a2 a4 a5 n (i + 1) _ r2.2.1 _ r2.2.2.2 _ (by omega) (by omega) hr2 (by rw [hnx]; rw [List.length_append, List.length_append]; omega)
        rw [hnx] at this
        refine zwp_mono this (fun u hu => ⟨hu.1, ?_⟩)
        have h7 := hu.2
        simp only [List.append_assoc, List.cons_append] at h7 ⊢
        exact h7
end RQ
/-! What the reference prints and says of a reading. -/
section WH
variable {mk ma : Nat → Int32} {l : List (Nat × Nat × Nat)}
/-- a tree fit for every writer -/
def zfitw (nd : List (Nat × Nat × Nat × Nat)) (S : List (Nat × Nat)) : Prop :=
  znok nd ∧ nd.length ≤ 160 ∧ (∀ q ∈ S, q.2 < nd.length) ∧ S.length ≤ 9 ∧ (∃ J, S.map (fun q => q.1) = 0 :: J ∧ zlk J ∧ (zR J).length ≤ 4) ∧ zcost zc1 (fun _ => 0) nd S ≤ 160 ∧ zcost zcp zjp nd S ≤ 320 ∧ zcost zcs zjs nd S ≤ 1440
theorem zfit_of {t w : Bool} {tx : List Nat} (hx : ztx tx) (hf : zform (zTK tx)) : zfitw (zbuild t w (zTK tx)).1 (zbuild t w (zTK tx)).2 := by
  obtain ⟨g1, g2, g3, g4, g5⟩ := zbuild_good (t := t) (w := w) hf (ztoks_td _ _ _ (fun c hc => (hx.2 c hc).2))
  exact ⟨g1, g2, g3, g4, g5, zcost_1 hx hf, zcost_p hx hf, zcost_s hx hf⟩
theorem zfit_1 {nd : List (Nat × Nat × Nat × Nat)} {S : List (Nat × Nat)} (h : zcost zc1 (fun _ => 0) nd S ≤ 160) : ∀ q ∈ S, zTt zc1 nd q.2 ≤ 160 := fun q hq => by
  have := zsu_mem (fun q : Nat × Nat => zTt zc1 nd q.2 + (fun _ => 0) q.1) S q hq
  exact Nat.le_trans (by omega) (Nat.le_trans this h)
theorem rp_print (hq : zqr mk ma l) (hf : zform l) (rd : Nat) (hrd : rd < 4) (hw : zfitw (zbuild (zrt_t rd) (zrt_w rd) l).1 (zbuild (zrt_t rd) (zrt_w rd) l).2) (a b c d e oc tc : Int32) (ms ml mr mw mo2 mre md mo mf o t : Nat → Int32) :
    zwp (fn_Ref_print (nI l.length) a b c d e oc tc mk ma ms ml mr mw mo2 mre md mo mf o t (nI rd)) (fun r => r.1 = nI (zbuild (zrt_t rd) (zrt_w rd) l).1.length ∧ zro r.2.2.2.2.2.1 r.2.2.2.2.2.2.2.2.2.2.2.2.2.2.2.2.1 (zprall (zbuild (zrt_t rd) (zrt_w rd) l).1 (zbuild (zrt_t rd) (zrt_w rd) l).2)) := by
  obtain ⟨g1, g2, g3, g4, ⟨J, hJ, hlk, hR⟩, c1, cp, cs⟩ := hw
  have c1' := zfit_1 c1
  unfold fn_Ref_print
  refine zwp_seq (rp_build hq hf rd hrd a b c d e ms ml mr mw mo2 mre md mo mf) (fun r hr => ?_)
  generalize zbuild (zrt_t rd) (zrt_w rd) l = T at *
  obtain ⟨nd, S⟩ := T
  obtain ⟨t1, t2, t3, R, hRe, t4, t5, t6⟩ := hr
  dsimp only at g1 g2 g3 g4 hJ c1 c1' cp cs t1 t2 t3 hRe ⊢
  have hRJ : R = zR J := by rw [hRe, hJ]; rfl
  rw [hRJ] at t5 t6
  have hS0 : 0 < S.length := by rw [← List.length_map (f := fun q : Nat × Nat => q.1), hJ]; simp
  have hq0 := List.getElem?_eq_getElem hS0
  have hm0 : S[0] ∈ S := List.getElem_mem hS0
  have hj0 : S[0].1 = 0 := by
    have := zsj hJ hq0
    simp at this; exact this.symm
  have hlen := zprall_len g1 S g3 (zjok_mem (zjok_of hJ hlk))
  have hd : S = S[0] :: S.drop 1 := by
    have := List.drop_eq_getElem_cons hS0
    rw [List.drop_zero] at this; exact this
  have hP : zprall nd S = zprt nd S[0].2 ++ zprall nd (S.drop 1) := by
    conv => lhs; rw [hd]
    show (if S[0].1 = 0 then [] else zsym S[0].1) ++ _ = _
    rw [if_pos hj0, List.nil_append]
  have hlp := congrArg List.length hP
  rw [List.length_append] at hlp
  have hsum := rp_printSum (oc := 0) (tc := tc) (o := o) (t := t) (l := []) t1 g1 g4 t3 hq0 (g3 _ hm0) (c1' _ hm0) ⟨rfl, zrw_nil⟩ (by simp only [List.length_nil]; omega)
  refine zwp_seq hsum (fun u hu => ?_)
  have hz0 : zpos (zR J) 0 = 0 := by cases zR J <;> rfl
  have := rp_prl mk ma r.2.2.2.2.2.2.2.2.2.2.2.1 r.2.2.2.2.2.2.2.2.2.2.2.2.1 r.2.2.2.2.2.2.2.2.2.2.2.2.2 (nI l.length) t1 g1 hJ hlk g4 hR t3 t6 g3 c1' r.2.1 r.2.2.2.1 r.2.2.2.2.1 zFU 0 u.1 u.2.1 u.2.2.1 u.2.2.2 _ (Nat.zero_le _) (Nat.lt_of_le_of_lt (by omega : (zR J).length - 0 ≤ 4) (by decide)) hu (by
    rw [hz0, List.nil_append]; show (zprt nd S[0].2).length + (zprall nd (S.drop 1)).length ≤ 2480; omega)
  rw [hz0, ← t5] at this
  refine zwp_mono this (fun v hv => ⟨hv.1.trans t1.1, ?_⟩)
  have h7 := hv.2
  rw [List.nil_append] at h7
  rw [hP]; exact h7
theorem rp_speak (hq : zqr mk ma l) (hf : zform l) (rd : Nat) (hrd : rd < 4) (hw : zfitw (zbuild (zrt_t rd) (zrt_w rd) l).1 (zbuild (zrt_t rd) (zrt_w rd) l).2) (a b c d e oc tc : Int32) (ms ml mr mw mo2 mre md mo mf o t : Nat → Int32) :
    zwp (fn_Ref_speak (nI l.length) a b c d e oc tc mk ma ms ml mr mw mo2 mre md mo mf o t (nI rd)) (fun r => r.1 = nI (zbuild (zrt_t rd) (zrt_w rd) l).1.length ∧ zro r.2.2.2.2.2.1 r.2.2.2.2.2.2.2.2.2.2.2.2.2.2.2.2.1 (zvall (zbuild (zrt_t rd) (zrt_w rd) l).1 (zbuild (zrt_t rd) (zrt_w rd) l).2)) := by
  obtain ⟨g1, g2, g3, g4, ⟨J, hJ, hlk, hR⟩, c1, cp, cs⟩ := hw
  have c1' := zfit_1 c1
  unfold fn_Ref_speak
  refine zwp_seq (rp_build hq hf rd hrd a b c d e ms ml mr mw mo2 mre md mo mf) (fun r hr => ?_)
  generalize zbuild (zrt_t rd) (zrt_w rd) l = T at *
  obtain ⟨nd, S⟩ := T
  obtain ⟨t1, t2, t3, R, hRe, t4, t5, t6⟩ := hr
  dsimp only at g1 g2 g3 g4 hJ c1 c1' cp cs t1 t2 t3 hRe ⊢
  have hRJ : R = zR J := by rw [hRe, hJ]; rfl
  rw [hRJ] at t5 t6
  have hS0 : 0 < S.length := by rw [← List.length_map (f := fun q : Nat × Nat => q.1), hJ]; simp
  have hq0 := List.getElem?_eq_getElem hS0
  have hm0 : S[0] ∈ S := List.getElem_mem hS0
  have hj0 : S[0].1 = 0 := by
    have := zsj hJ hq0
    simp at this; exact this.symm
  have hlen := zvall_len g1 S g3 (zjok_mem (zjok_of hJ hlk))
  have hd : S = S[0] :: S.drop 1 := by
    have := List.drop_eq_getElem_cons hS0
    rw [List.drop_zero] at this; exact this
  have hP : zvall nd S = zvc nd false S[0].2 ++ zvall nd (S.drop 1) := by
    conv => lhs; rw [hd]
    show zvj S[0].1 ++ _ = _
    unfold zvj
    rw [if_pos hj0, List.nil_append]
  have hlp := congrArg List.length hP
  rw [List.length_append] at hlp
  have hsum := rp_speakSum (oc := 0) (tc := tc) (o := o) (t := t) (P := []) t1 g1 g4 t3 hq0 (g3 _ hm0) (c1' _ hm0) ⟨⟨rfl, zrw_nil⟩, Or.inl rfl⟩ (by simp only [List.length_nil, List.length_cons]; omega)
  refine zwp_seq hsum (fun u hu => ?_)
  have hz0 : zpos (zR J) 0 = 0 := by cases zR J <;> rfl
  have := rp_spl mk ma r.2.2.2.2.2.2.2.2.2.2.2.1 r.2.2.2.2.2.2.2.2.2.2.2.2.1 r.2.2.2.2.2.2.2.2.2.2.2.2.2 (nI l.length) t1 g1 hJ hlk g4 hR t3 t6 g3 c1' r.2.1 r.2.2.2.1 r.2.2.2.2.1 zFU 0 u.1 u.2.1 u.2.2.1 u.2.2.2 _ (Nat.zero_le _) (Nat.lt_of_le_of_lt (by omega : (zR J).length - 0 ≤ 4) (by decide)) hu (by
    rw [hz0, List.nil_append]; show (32 :: zvc nd false S[0].2).length + (zvall nd (S.drop 1)).length ≤ 2300; rw [List.length_cons]; omega)
  rw [hz0, ← t5] at this
  refine zwp_mono this (fun v hv => ⟨hv.1.trans t1.1, ?_⟩)
  have h7 := hv.2.1
  rw [hP]; exact h7
end WH
/-! Evaluations: what both sides find, as functions of the tree and the letters. -/
def zrowN {α : Type} (g : α → Int32) (l : List α) : Nat → Int32 := fun j => match l[j]? with
  | some a => g a
  | none => 0
theorem zrowN_ok {α : Type} (g : α → Int32) (l : List α) : zrw (zrowN g l) g l := fun j a h => by unfold zrowN; rw [h]
def zJ (S : List (Nat × Nat)) : List Nat := (S.map (fun q => q.1)).drop 1
def zevc (nd : List (Nat × Nat × Nat × Nat)) (g : Nat → Int32) := fn_Eval_evaluate 0 (fun _ => 0) (fun _ => 0) (nI nd.length) (zrowN (fun q => nI q.1) nd) (zrowN (fun q => nI q.2.1) nd) (zrowN zgl nd) (zrowN zgr nd) g
def zvst (nd : List (Nat × Nat × Nat × Nat)) (g : Nat → Int32) : Int32 := match zevc nd g with
  | some a => a.1
  | none => 0
def zvvl (nd : List (Nat × Nat × Nat × Nat)) (g : Nat → Int32) : Nat → Int64 := match zevc nd g with
  | some a => a.2.2.1
  | none => fun _ => 0
def zvou (nd : List (Nat × Nat × Nat × Nat)) (S : List (Nat × Nat)) (g : Nat → Int32) : Int64 := if zvst nd g = 0 then (fn_Eval_outcomeOf (zvvl nd g) (nI S.length) (zrowN (fun q => nI q.2) S) (zrowN (fun q => nI q.1) S)).getD 0 else 0
section EV
variable {tc ts mn : Int32} {tk td tl tr to tj ms ml mr mw mro mre g mv : Nat → Int32} {nd : List (Nat × Nat × Nat × Nat)} {S : List (Nat × Nat)}
theorem zfit_J (h : zfitw nd S) : S.map (fun q => q.1) = 0 :: zJ S ∧ zlk (zJ S) ∧ (zR (zJ S)).length ≤ 4 := by
  obtain ⟨-, -, -, -, ⟨J, h1, h2, h3⟩, -⟩ := h
  have e : zJ S = J := by unfold zJ; rw [h1]; rfl
  rw [e]; exact ⟨h1, h2, h3⟩
/-- the reference's tree -/
def zrtr (mn links : Int32) (ms ml mr mw mro mre : Nat → Int32) (nd : List (Nat × Nat × Nat × Nat)) (S : List (Nat × Nat)) : Prop :=
  zrt mn ms ml mr mw nd ∧ zrw mro (fun q => nI q.2) S ∧ zrw mre (fun k => nI (zka k)) (zR (zJ S)) ∧ links = nI (zR (zJ S)).length
theorem zrtr_of {r : zRt} (h : zrtree r nd S) (hf : zfitw nd S) : zrtr r.1 r.2.2.1 r.2.2.2.2.2.1 r.2.2.2.2.2.2.1 r.2.2.2.2.2.2.2.1 r.2.2.2.2.2.2.2.2.1 r.2.2.2.2.2.2.2.2.2.1 r.2.2.2.2.2.2.2.2.2.2.1 nd S := by
  obtain ⟨t1, t2, t3, R, hRe, t4, t5, t6⟩ := h
  obtain ⟨j1, j2, j3⟩ := zfit_J hf
  have hRJ : R = zR (zJ S) := by rw [hRe, j1]; rfl
  rw [hRJ] at t5 t6
  exact ⟨t1, t3, t6, t5⟩
theorem t_ev2 (hf : zfitw nd S) (hc : zctree tc ts tk td tl tr to tj nd S) {lk : Int32} (hr : zrtr mn lk ms ml mr mw mro mre nd S) (hg : ∀ j, j < 26 → g j = mv j) (st st' : Int32) (oc : Int64) (v d r row : Nat → Int64) :
    zw2 (fn_Eval_evaluate st v d tc tk td tl tr g) (fn_Ref_evaluate mn lk st' oc mv ms ml mr mw r mro mre row)
      (fun a b => a.1 = b.1 ∧ a.2.1 = a.1 ∧ (a.1 = 0 → fn_Eval_outcomeOf a.2.2.1 ts to tj = some b.2.1 ∧ ∀ j, j < nd.length → a.2.2.1 j = b.2.2.1 j) ∧ (a.1 ≠ 0 → b.2.1 = 0)) := by
  obtain ⟨j1, j2, j3⟩ := zfit_J hf
  obtain ⟨r1, r2, r3, r4⟩ := hr
  have h160 := hf.2.1
  have e : (if (160 : Int32) < fn_Tree_size tc then 160 else fn_Tree_size tc) = nI nd.length := by
    unfold fn_Tree_size
    rw [hc.1.1]
    exact if_neg (show ¬ nI 160 < nI nd.length by rw [nI_lti (by omega) (by omega)]; omega)
  unfold fn_Eval_evaluate fn_Ref_evaluate
  rw [e, r4]
  exact t_eval hc r1 r2 r3 hf.1 j1 j2 hf.2.2.2.1 hf.2.2.1 j3 hg oc zFU 0 0 v r d row (Nat.zero_le _) (Nat.lt_of_le_of_lt (by omega : nd.length - 0 ≤ 160) (by decide)) (fun _ j hj => absurd hj (Nat.not_lt_zero _))
theorem zcanC (hf : zfitw nd S) : zctree (nI nd.length) (nI S.length) (zrowN (fun q => nI q.1) nd) (zrowN (fun q => nI q.2.1) nd) (zrowN zgl nd) (zrowN zgr nd) (zrowN (fun q => nI q.2) S) (zrowN (fun q => nI q.1) S) nd S :=
  ⟨⟨rfl, hf.2.1, zrowN_ok _ _, zrowN_ok _ _, zrowN_ok _ _, zrowN_ok _ _⟩, rfl, zrowN_ok _ _, zrowN_ok _ _⟩
theorem zcanR (hf : zfitw nd S) : zrtr (nI nd.length) (nI (zR (zJ S)).length) (zrowN (fun q => nI (zka q.1)) nd) (zrowN zrl nd) (zrowN zrr nd) (zrowN zrh nd) (zrowN (fun q => nI q.2) S) (zrowN (fun k => nI (zka k)) (zR (zJ S))) nd S :=
  ⟨⟨rfl, hf.2.1, zrowN_ok _ _, zrowN_ok _ _, zrowN_ok _ _, zrowN_ok _ _⟩, zrowN_ok _ _, zrowN_ok _ _, rfl⟩
/-- the class beside itself: any rows and leftovers give the same -/
theorem e_can (hf : zfitw nd S) (hg : ∀ j, j < 26 → g j = mv j) : ∃ b, fn_Ref_evaluate (nI nd.length) (nI (zR (zJ S)).length) 0 0 mv (zrowN (fun q => nI (zka q.1)) nd) (zrowN zrl nd) (zrowN zrr nd) (zrowN zrh nd) (fun _ => 0) (zrowN (fun q => nI q.2) S) (zrowN (fun k => nI (zka k)) (zR (zJ S))) (fun _ => 0) = some b ∧ b.1 = zvst nd g ∧ b.2.1 = zvou nd S g ∧ (b.1 = 0 → ∀ j, j < nd.length → zvvl nd g j = b.2.2.1 j) := by
  obtain ⟨a, b, ha, hb, h1, h2, h3, h4⟩ := t_ev2 hf (zcanC hf) (zcanR hf) hg 0 0 0 (fun _ => 0) (fun _ => 0) (fun _ => 0) (fun _ => 0)
  have e1 : zvst nd g = a.1 := by unfold zvst zevc; rw [ha]
  have e2 : zvvl nd g = a.2.2.1 := by unfold zvvl zevc; rw [ha]
  refine ⟨b, hb, by rw [e1, h1], ?_, ?_⟩
  · unfold zvou
    by_cases h0 : a.1 = 0
    · rw [e1, if_pos h0, e2, (h3 h0).1]; rfl
    · rw [e1, if_neg h0]; exact h4 h0
  · intro h0 j hj
    rw [e2]; exact (h3 (h1.trans h0)).2 j hj
theorem e_cls (hf : zfitw nd S) (hc : zctree tc ts tk td tl tr to tj nd S) (hg : ∀ j, j < 26 → mv j = g j) (st : Int32) (v d : Nat → Int64) :
    zwp (fn_Eval_evaluate st v d tc tk td tl tr mv) (fun a => a.1 = zvst nd g ∧ a.2.1 = a.1 ∧ (a.1 = 0 → fn_Eval_outcomeOf a.2.2.1 ts to tj = some (zvou nd S g) ∧ ∀ j, j < nd.length → a.2.2.1 j = zvvl nd g j) ∧ (a.1 ≠ 0 → zvou nd S g = 0)) := by
  obtain ⟨b, hb, b1, b2, b3⟩ := e_can (g := g) (mv := g) hf (fun _ _ => rfl)
  obtain ⟨a, b', ha, hb', h1, h2, h3, h4⟩ := t_ev2 hf hc (zcanR hf) hg st 0 0 v d (fun _ => 0) (fun _ => 0)
  rw [hb] at hb'
  cases hb'
  refine ⟨a, ha, h1.trans b1, h2, fun h0 => ⟨?_, fun j hj => ?_⟩, fun h0 => ?_⟩
  · rw [← b2]; exact (h3 h0).1
  · rw [b3 (h1.symm.trans h0) j hj]; exact (h3 h0).2 j hj
  · rw [← b2]; exact h4 h0
theorem e_ref (hf : zfitw nd S) {lk : Int32} (hr : zrtr mn lk ms ml mr mw mro mre nd S) (hg : ∀ j, j < 26 → g j = mv j) (st : Int32) (oc : Int64) (r row : Nat → Int64) :
    zwp (fn_Ref_evaluate mn lk st oc mv ms ml mr mw r mro mre row) (fun b => b.1 = zvst nd g ∧ b.2.1 = zvou nd S g ∧ (b.1 = 0 → ∀ j, j < nd.length → zvvl nd g j = b.2.2.1 j)) := by
  obtain ⟨a, b, ha, hb, h1, h2, h3, h4⟩ := t_ev2 hf (zcanC hf) hr hg 0 st oc (fun _ => 0) (fun _ => 0) r row
  have e1 : zvst nd g = a.1 := by unfold zvst zevc; rw [ha]
  have e2 : zvvl nd g = a.2.2.1 := by unfold zvvl zevc; rw [ha]
  refine ⟨b, hb, by rw [e1, h1], ?_, ?_⟩
  · unfold zvou
    by_cases h0 : a.1 = 0
    · rw [e1, if_pos h0, e2, (h3 h0).1]; rfl
    · rw [e1, if_neg h0]; exact h4 h0
  · intro h0 j hj
    rw [e2]; exact (h3 (h1.trans h0)).2 j hj
/-- a reading's judgement by the class -/
theorem sp_judge (hf : zfitw nd S) (hc : zctree tc ts tk td tl tr to tj nd S) (hg : ∀ j, j < 26 → mv j = g j) (rs : Int32) (rr : Int64) (st : Int32) (v d : Nat → Int64) :
    zwp (fn_Reading_judge rs rr tc ts tk td tl tr to tj st v d mv) (fun r => r.1 = zvst nd g ∧ r.2.1 = zvou nd S g ∧ (r.1 = 0 → ∀ j, j < nd.length → r.2.2.2.1 j = zvvl nd g j)) := by
  unfold fn_Reading_judge
  refine zwp_seq (e_cls hf hc hg st v d) (fun a ha => ?_)
  obtain ⟨a1, a2, a3, a4⟩ := ha
  refine zwp_ite (fun h0 => ?_) (fun h0 => ?_)
  · rw [(a3 h0).1, Option.bind_some]
    exact zwp_some ⟨a1, rfl, fun _ => (a3 h0).2⟩
  · exact zwp_some ⟨a1, (a4 h0).symm, fun h => absurd h h0⟩
/-- the class and one link -/
def zlh (nd : List (Nat × Nat × Nat × Nat)) (S : List (Nat × Nat)) (g : Nat → Int32) (n : Nat) : Int32 := if n < (zR (zJ S)).length then (if zvst nd g = 0 then zb2 (zhold (zvvl nd g) S (zJ S) (zpos (zR (zJ S)) n)) else 0) else -3
theorem zne (hf : zfitw nd S) : 0 < nd.length ∧ 0 < S.length := by
  have hS : 0 < S.length := by rw [← List.length_map (f := fun q : Nat × Nat => q.1), (zfit_J hf).1]; simp
  have := hf.2.2.1 _ (List.getElem_mem hS)
  exact ⟨by omega, hS⟩
theorem sp_solv (hf : zfitw nd S) (hc : zctree tc ts tk td tl tr to tj nd S) {n : Nat} (hn : n < 2 ^ 31) : fn_Tree_sumOfLink ts tj (nI n) = some (if n < (zR (zJ S)).length then nI (zpos (zR (zJ S)) n + 1) else -1) := by
  obtain ⟨j1, j2, j3⟩ := zfit_J hf
  have h9 := hf.2.2.2.1
  unfold fn_Tree_sumOfLink
  exact sp_sol hc.2.1 hc.2.2.2 j1 j2 h9 n hn zFU 0 (Nat.zero_le _) (Nat.lt_of_le_of_lt (by omega : S.length - 0 ≤ 9) (by decide)) (by show ([] : List Nat).length ≤ n; exact Nat.zero_le _)
theorem sp_holdv (hf : zfitw nd S) (hc : zctree tc ts tk td tl tr to tj nd S) {n : Nat} (hn : n < (zR (zJ S)).length) {v : Nat → Int64} (hv : ∀ j, j < nd.length → v j = zvvl nd g j) : zwp (fn_Eval_holds v ts to tj (nI (zpos (zR (zJ S)) n + 1))) (fun r => r = zb2 (zhold (zvvl nd g) S (zJ S) (zpos (zR (zJ S)) n))) := by
  obtain ⟨j1, j2, j3⟩ := zfit_J hf
  obtain ⟨p1, p2, p3, p4⟩ := zpos_at (zJ S).length (zJ S) (Nat.le_refl _) j2 n _ (List.getElem?_eq_getElem hn)
  rw [← zhold_eq hf.2.1 (zne hf).1 hf.2.2.1 hv]
  exact c_hold hc.2.1 hc.2.2.1 hc.2.2.2 j1 j2 hf.2.2.2.1 hf.2.2.1 hf.2.1 v p1 ⟨p3, p4⟩
theorem rp_holdv (hf : zfitw nd S) {lk : Int32} (hr : zrtr mn lk ms ml mr mw mro mre nd S) {n : Nat} (hn : n < (zR (zJ S)).length) {v : Nat → Int64} (hv : ∀ j, j < nd.length → zvvl nd g j = v j) : zwp (fn_Ref_holds v mro mre (nI n)) (fun r => r = zb2 (zhold (zvvl nd g) S (zJ S) (zpos (zR (zJ S)) n))) := by
  obtain ⟨j1, j2, j3⟩ := zfit_J hf
  rw [zhold_eq hf.2.1 (zne hf).1 hf.2.2.1 hv]
  exact r_hold mro mre hr.2.1 hr.2.2.1 j3 j1 j2 hf.2.2.2.1 hf.2.2.1 hf.2.1 v (List.getElem?_eq_getElem hn)
end EV
/-! Counts of a letter, heights. -/
def zcv (d : Nat) (nd : List (Nat × Nat × Nat × Nat)) : Nat := zsu (fun q : Nat × Nat × Nat × Nat => if q.1 = 2 ∧ q.2.1 = d then 1 else 0) nd
def zcl (d : Nat) (l : List (Nat × Nat × Nat)) : Nat := zsu (fun q : Nat × Nat × Nat => if q.1 = 2 ∧ q.2.1 = d then 1 else 0) l
theorem zcv_push (d : Nat) (nd : List (Nat × Nat × Nat × Nat)) (a : Nat × Nat × Nat × Nat) : zcv d (nd ++ [a]) = zcv d nd + (if a.1 = 2 ∧ a.2.1 = d then 1 else 0) := by
  unfold zcv; rw [zsu_app]; rfl
theorem zdown_cv (lev : Nat → Nat) (m d : Nat) : ∀ (O : List (Nat × Nat)) (nd : List (Nat × Nat × Nat × Nat)) (D : List Nat), (∀ q ∈ O, q.1 ≠ 2) → zcv d (zdown lev m O nd D).1 = zcv d nd ∧ ∀ q ∈ (zdown lev m O nd D).2.2, q.1 ≠ 2
  | [], nd, D, h => ⟨rfl, h⟩
  | q :: O, nd, D, h => by
    unfold zdown
    have hq := h q (by simp)
    split
    · obtain ⟨h1, h2⟩ := zdown_cv lev m d O (zap q nd D).1 (zap q nd D).2 (fun x hx => h x (by simp [hx]))
      refine ⟨h1.trans ?_, h2⟩
      unfold zap
      split
      · rw [zcv_push, if_neg (fun hh => hq hh.1)]; rfl
      · rw [zcv_push, if_neg (fun hh => hq hh.1)]; rfl
    · exact ⟨rfl, h⟩
theorem ztk0_cv (t w : Bool) (af : Bool) (k d x : Nat) (nd : List (Nat × Nat × Nat × Nat)) (D : List Nat) (O S : List (Nat × Nat)) (j : Nat) (h : ∀ q ∈ O, q.1 ≠ 2) :
    zcv x (ztk0 t w af k d nd D O S j).1 = zcv x nd + (if k = 2 ∧ d = x then 1 else 0) ∧ ∀ q ∈ (ztk0 t w af k d nd D O S j).2.2.1, q.1 ≠ 2 := by
  have hcons : ∀ (a b : Nat) (O' : List (Nat × Nat)), a ≠ 2 → (∀ q ∈ O', q.1 ≠ 2) → ∀ q ∈ (a, b) :: O', q.1 ≠ 2 := by
    intro a b O' ha hO q hq
    rcases List.mem_cons.mp hq with rfl | hq
    · exact ha
    · exact hO q hq
  unfold ztk0
  by_cases h1 : k = 1 ∨ k = 2
  · rw [if_pos h1]; exact ⟨zcv_push _ _ _, h⟩
  rw [if_neg h1, if_neg (show ¬ (k = 2 ∧ d = x) from fun hh => h1 (Or.inr hh.1)), Nat.add_zero]
  by_cases h2 : 3 ≤ k ∧ k ≤ 6 ∨ k = 22
  · rw [if_pos h2]; exact ⟨rfl, hcons k 0 O (by omega) h⟩
  rw [if_neg h2]
  by_cases h3 : k = 24
  · rw [if_pos h3]
    refine ⟨rfl, ?_⟩
    show ∀ q ∈ zprime O, q.1 ≠ 2
    cases O with
    | nil => exact h
    | cons a O => exact hcons a.1 (a.2 + 1) O (h a (by simp)) (fun q hq => h q (by simp [hq]))
  rw [if_neg h3]
  by_cases h4 : k = 8 ∧ af = false
  · rw [if_pos h4]; exact ⟨rfl, hcons 13 0 O (by omega) h⟩
  rw [if_neg h4]
  by_cases h5 : 7 ≤ k ∧ k ≤ 11
  · rw [if_pos h5]
    obtain ⟨d1, d2⟩ := zdown_cv (zlev t w) (zcom k) x O nd D h
    exact ⟨d1, hcons k 0 _ (by omega) d2⟩
  rw [if_neg h5]
  obtain ⟨d1, d2⟩ := zdown_cv (zlev t w) 1 x O nd D h
  by_cases h6 : k = 23
  · rw [if_pos h6]; exact ⟨d1, fun q hq => d2 q (List.mem_of_mem_drop hq)⟩
  · rw [if_neg h6]; exact ⟨d1, d2⟩
theorem zjux_cv (t w : Bool) (af : Bool) (k x : Nat) (nd : List (Nat × Nat × Nat × Nat)) (D : List Nat) (O : List (Nat × Nat)) (h : ∀ q ∈ O, q.1 ≠ 2) :
    zcv x (zjux t w af k nd D O).1 = zcv x nd ∧ ∀ q ∈ (zjux t w af k nd D O).2.2, q.1 ≠ 2 := by
  unfold zjux
  split
  · obtain ⟨d1, d2⟩ := zdown_cv (zlev t w) 4 x O nd D h
    refine ⟨d1, fun q hq => ?_⟩
    rcases List.mem_cons.mp hq with rfl | hq
    · exact (by decide : (12 : Nat) ≠ 2)
    · exact d2 q hq
  · exact ⟨rfl, h⟩
theorem zbgo_cv (t w : Bool) (x : Nat) : ∀ (l : List (Nat × Nat × Nat)) (σ sf : Nat × Nat × Nat × Nat × Nat) (b : zBt), zgo σ l = some sf → (∀ q ∈ b.2.2.1, q.1 ≠ 2) → zcv x (zbgo t w σ b l).1 = zcv x b.1 + zcl x l ∧ ∀ q ∈ (zbgo t w σ b l).2.2.1, q.1 ≠ 2
  | [], _, _, _, _, h => ⟨rfl, h⟩
  | q :: l, σ, sf, b, hgo, h => by
    obtain ⟨σ', hs, hgo'⟩ := zgo_step hgo
    unfold zbgo
    rw [hs]
    dsimp only
    obtain ⟨j1, j2⟩ := zjux_cv t w (decide (σ.1 = 3)) q.1 x b.1 b.2.1 b.2.2.1 h
    obtain ⟨k1, k2⟩ := ztk0_cv t w (decide (σ.1 = 3)) q.1 q.2.1 x _ (zjux t w (decide (σ.1 = 3)) q.1 b.1 b.2.1 b.2.2.1).2.1 _ b.2.2.2.1 b.2.2.2.2 j2
    obtain ⟨r1, r2⟩ := zbgo_cv t w x l σ' sf (ztk t w (decide (σ.1 = 3)) q.1 q.2.1 b.1 b.2.1 b.2.2.1 b.2.2.2.1 b.2.2.2.2) hgo' k2
    refine ⟨r1.trans ?_, r2⟩
    show zcv x (ztk0 _ _ _ _ _ _ _ _ _ _).1 + zcl x l = zcv x b.1 + ((if q.1 = 2 ∧ q.2.1 = x then 1 else 0) + zcl x l)
    rw [k1, j1]; omega
theorem zbuild_cv {t w : Bool} {l : List (Nat × Nat × Nat)} (hf : zform l) (x : Nat) : zcv x (zbuild t w l).1 = zcl x l := by
  obtain ⟨⟨sf, h1, h2⟩, h3, h4⟩ := hf
  obtain ⟨r1, r2⟩ := zbgo_cv t w x l zs0 sf ([], [], [], [], 0) h1 (fun q hq => by simp at hq)
  obtain ⟨d1, -⟩ := zdown_cv (zlev t w) 1 x _ (zbgo t w zs0 ([], [], [], [], 0) l).1 (zbgo t w zs0 ([], [], [], [], 0) l).2.1 r2
  show zcv x (zdown _ _ _ _ _).1 = _
  rw [d1, r1]; exact Nat.zero_add _
theorem zcl_le (x : Nat) : ∀ l : List (Nat × Nat × Nat), zcl x l ≤ l.length
  | [] => Nat.le_refl _
  | q :: l => by
    have := zcl_le x l
    show (if q.1 = 2 ∧ q.2.1 = x then 1 else 0) + zcl x l ≤ l.length + 1
    split <;> omega
section CV
variable {tc : Int32} {tk td tl tr : Nat → Int32} {nd : List (Nat × Nat × Nat × Nat)}
theorem zcv_take (d i : Nat) (hi : i < nd.length) : zcv d (nd.take (i + 1)) = zcv d (nd.take i) + (if nd[i].1 = 2 ∧ nd[i].2.1 = d then 1 else 0) := by
  rw [List.take_succ_eq_append_getElem hi, zcv_push]
theorem sp_cvl (hc : zct tc tk td tl tr nd) (hok : znok nd) (d : Nat) (hd : d < 26) : ∀ (n i : Nat), i ≤ nd.length → nd.length - i < n → fn_Tree_countVariable_L4 tc tk td n (nI d) (nI (zcv d (nd.take i))) (nI i) = some (nI (zcv d nd))
  | 0, _, _, h => absurd h (Nat.not_lt_zero _)
  | n + 1, i, hi, hn => by
    have hcap := hc.2.1
    unfold fn_Tree_countVariable_L4
    by_cases he : i = nd.length
    · rw [if_pos (by rw [hc.1]; exact nI_le (by omega) (by omega)), he, List.take_length]
    · have hlt : i < nd.length := by omega
      have hq := List.getElem?_eq_getElem hlt
      obtain ⟨k1, k2, -, -⟩ := sp_tkind hc hq
      obtain ⟨-, -, l3, l4⟩ := znk_lt (hok i _ hq)
      have hks := hok i _ hq
      have hnx := sp_cvl hc hok d hd n (i + 1) hlt (by omega)
      rw [zcv_take d i hlt] at hnx
      rw [if_neg (by rw [hc.1]; exact nI_ge hlt (by omega)), k1, Option.bind_some]
      unfold fn_Tree_countVariable_b35 fn_Tree_countVariable_b36
      by_cases h2 : nd[i].1 = 2
      · have hdl : nd[i].2.1 < 26 := by unfold znk at hks; rcases hks with ⟨h, -⟩ | ⟨-, h⟩ | ⟨h, -⟩ | ⟨h, -⟩ | ⟨h, -⟩ <;> omega
        rw [if_pos (by rw [h2]; rfl), k2, Option.bind_some]
        by_cases h3 : nd[i].2.1 = d
        · rw [if_pos ⟨h2, h3⟩] at hnx
          rw [if_pos (by rw [h3]), nI_add1, nI_add1]; exact hnx
        · rw [if_neg (fun h => h3 h.2)] at hnx
          rw [if_neg (fun h => h3 ((nI_inj (by omega) (by omega)).mp h)), nI_add1, Int32.add_zero]; exact hnx
      · rw [if_neg (fun h => h2 h.1)] at hnx
        rw [if_neg (show ¬ nI nd[i].1 = 2 from fun h => h2 ((nI_inj (b := 2) (by omega) (by omega)).mp h)), nI_add1, Int32.add_zero]; exact hnx
theorem sp_cv (hc : zct tc tk td tl tr nd) (hok : znok nd) (d : Nat) (hd : d < 26) : fn_Tree_countVariable tc tk td (nI d) = some (nI (zcv d nd)) := by
  have hcap := hc.2.1
  unfold fn_Tree_countVariable
  exact sp_cvl hc hok d hd zFU 0 (Nat.zero_le _) (Nat.lt_of_le_of_lt (by omega : nd.length - 0 ≤ 160) (by decide))
theorem zcl_take {l : List (Nat × Nat × Nat)} (d i : Nat) (hi : i < l.length) : zcl d (l.take (i + 1)) = zcl d (l.take i) + (if l[i].1 = 2 ∧ l[i].2.1 = d then 1 else 0) := by
  rw [List.take_succ_eq_append_getElem hi]; unfold zcl; rw [zsu_app]; rfl
theorem rp_cvl {mk ma : Nat → Int32} {l : List (Nat × Nat × Nat)} (hq : zqr mk ma l) (h80 : l.length ≤ 80) (hk : ∀ q ∈ l, zkok q) (htd : ∀ q ∈ l, ztd q) (d : Nat) (hd : d < 26) : ∀ (n i : Nat), i ≤ l.length → l.length - i < n → fn_Ref_occurrences_L18 (nI l.length) mk ma n (nI d) (nI (zcl d (l.take i))) (nI i) = some (nI (zcl d l))
  | 0, _, _, h => absurd h (Nat.not_lt_zero _)
  | n + 1, i, hi, hn => by
    unfold fn_Ref_occurrences_L18
    by_cases he : i = l.length
    · rw [if_pos (nI_le (by omega) (by omega)), he, List.take_length]
    · have hlt : i < l.length := by omega
      have hg := List.getElem?_eq_getElem hlt
      have hm : l[i] ∈ l := List.getElem_mem hlt
      have hnx := rp_cvl hq h80 hk htd d hd n (i + 1) hlt (by omega)
      rw [zcl_take d i hlt] at hnx
      have hb := nI_in2 (c := i) (N := 81) (by omega) (by omega)
      have hz := zka_lt l[i].1 (hk _ hm).1
      have e2 : nI (zka l[i].1) = 2 ↔ l[i].1 = 2 := (nI_inj (b := 2) (by omega) (by omega)).trans (zka_k1 _ (hk _ hm).1).2.1
      simp only [if_neg (nI_ge hlt (by omega)), nI_clamp (show i < 2 ^ 31 by omega), if_neg hb, hq.1 i _ hg, hq.2 i _ hg]
      unfold fn_Ref_occurrences_b51 fn_Ref_occurrences_b52
      by_cases h2 : l[i].1 = 2
      · have hdl := (htd _ hm).2 h2
        have ea : zaa l[i].1 l[i].2.1 = l[i].2.1 := by unfold zaa; rw [if_neg (by omega)]
        rw [if_pos (e2.mpr h2), ea]
        by_cases h3 : l[i].2.1 = d
        · rw [if_pos ⟨h2, h3⟩] at hnx
          rw [if_pos (by rw [h3]), nI_add1, nI_add1]; exact hnx
        · rw [if_neg (fun h => h3 h.2)] at hnx
          rw [if_neg (fun h => h3 ((nI_inj (by omega) (by omega)).mp h)), nI_add1, Int32.add_zero]; exact hnx
      · rw [if_neg (fun h => h2 h.1)] at hnx
        rw [if_neg (fun h => h2 (e2.mp h)), nI_add1, Int32.add_zero]; exact hnx
/-! heights -/
def zmx (a b : Int32) : Int32 := if a < b then b else a
theorem zmx_le (a b : Int32) : (if a ≤ b then b else a) = zmx a b := by
  unfold zmx
  by_cases h : a ≤ b
  · rw [if_pos h]
    by_cases h2 : a < b
    · rw [if_pos h2]
    · rw [if_neg h2]
      exact Int32.le_antisymm (Int32.not_lt.mp h2) h
  · rw [if_neg h, if_neg (fun h2 => h (Int32.le_of_lt h2))]
theorem zmx_comm (a b : Int32) : zmx a b = zmx b a := by
  rw [← zmx_le a b]
  unfold zmx
  by_cases h : a ≤ b
  · rw [if_pos h, if_neg (fun h2 => absurd h (Int32.not_le.mpr h2))]
  · rw [if_neg h, if_pos (Int32.not_le.mp h)]
/-- a node's height out of the heights before it -/
def zhn (h : Nat → Int32) (q : Nat × Nat × Nat × Nat) : Int32 := 1 + zmx (if q.1 ≤ 2 then 0 else h q.2.2.1) (if 7 ≤ q.1 ∧ q.1 ≤ 12 then h q.2.2.2 else 0)
theorem sp_heightOf {th : Nat → Int32} (htc : tc = nI nd.length) (h160 : nd.length ≤ 160) {j : Nat} (hj : j < nd.length) : fn_Tree_heightOf tc th (nI j) = some (th j) ∧ fn_Tree_heightOf tc th (-1) = some 0 := by
  have e1 : fn_Tree_hasNode tc (-1) = 0 := by
    unfold fn_Tree_hasNode
    exact if_pos (by decide)
  have e2 : fn_Tree_hasNode tc (nI j) = 1 := by
    unfold fn_Tree_hasNode
    rw [if_neg (nI_pos (by omega)), if_neg (by rw [htc]; exact nI_ge hj (by omega))]
  unfold fn_Tree_heightOf
  rw [e1, e2, if_neg (by decide), if_pos rfl, if_neg (nI_in (by omega) (by omega)), nI_clamp (by omega)]
  exact ⟨rfl, rfl⟩
variable {mn : Int32} {ms ml mr mw : Nat → Int32}
theorem t_heights (hc : zct tc tk td tl tr nd) (hr : zrt mn ms ml mr mw nd) (hok : znok nd) (mk ma : Nat → Int32) (tkn a b c d : Int32) (mro mre md mo mf : Nat → Int32) : ∀ (n i : Nat) (x : Int32) (th rh : Nat → Int32), i ≤ nd.length → nd.length - i < n → (∀ j, j < i → th j = rh j) →
    zw2 (fn_Tree_greatestHeight_L4 tc tl tr n th x (nI i)) (fn_Ref_height_L18 tkn mk ma n mn a b c d ms ml mr mw mro mre md mo mf rh x (nI i)) (fun p q => p.1 = q.1)
  | 0, _, _, _, _, _, h, _ => absurd h (Nat.not_lt_zero _)
  | n + 1, i, x, th, rh, hi, hn, hh => by
    have hcap := hc.2.1
    unfold fn_Tree_greatestHeight_L4 fn_Ref_height_L18
    by_cases he : i = nd.length
    · rw [if_pos (by rw [hc.1]; exact nI_le (by omega) (by omega)), if_pos (by rw [hr.1]; exact nI_le (by omega) (by omega))]
      exact ⟨_, _, rfl, rfl, rfl⟩
    · have hlt : i < nd.length := by omega
      have hq := List.getElem?_eq_getElem hlt
      obtain ⟨l1, l2, l3, l4⟩ := znk_lt (hok i _ hq)
      have hb1 := nI_in2 (c := i) (N := 160) (by omega) (by omega)
      have hb2 := nI_in2 (c := i) (N := 200) (by omega) (by omega)
      have htc := hc.1
      have hmn := hr.1
      obtain ⟨-, -, c3, c4, c5, c6⟩ := hc
      obtain ⟨-, -, r3, r4, r5, r6⟩ := hr
      have el : fn_Tree_heightOf tc th (zgl nd[i]) = some (if nd[i].1 ≤ 2 then 0 else th nd[i].2.2.1) := by
        unfold zgl
        by_cases h2 : nd[i].1 ≤ 2
        · rw [if_pos h2, if_pos h2]; exact (sp_heightOf htc hcap hlt).2
        · rw [if_neg h2, if_neg h2]; exact (sp_heightOf htc hcap (by have := l1 h2; omega)).1
      have er : fn_Tree_heightOf tc th (zgr nd[i]) = some (if 7 ≤ nd[i].1 ∧ nd[i].1 ≤ 12 then th nd[i].2.2.2 else 0) := by
        unfold zgr
        by_cases h2 : 7 ≤ nd[i].1 ∧ nd[i].1 ≤ 12
        · rw [if_pos h2, if_pos h2]; exact (sp_heightOf htc hcap (by have := l2 h2; omega)).1
        · rw [if_neg h2, if_neg h2]; exact (sp_heightOf htc hcap hlt).2
      have hcl : (fun k3 => (upd th i k3) i) = fun k3 => k3 := funext fun k3 => upd_at
      -- the class
      have g1 : ¬ tc ≤ nI i := by rw [htc]; exact nI_ge hlt (by omega)
      have g2 : ¬ mn ≤ nI i := by rw [hmn]; exact nI_ge hlt (by omega)
      rw [if_neg g1, if_neg g2]
      simp only [nI_clamp (show i < 2 ^ 31 by omega), if_neg hb1, if_neg hb2, c5 i _ hq, c6 i _ hq, el, er, Option.bind_some, upd_at, r4 i _ hq]
      have hstep : ∀ (hv : Int32) (th' rh' : Nat → Int32), hv = zhn th nd[i] → th' = upd th i hv → rh' = upd rh i hv → zw2 (fn_Tree_greatestHeight_L4 tc tl tr n th' (if x < hv then hv else x) (nI i + 1)) (fn_Ref_height_L18 tkn mk ma n mn a b c d ms ml mr mw mro mre md mo mf rh' (zmx x hv) (nI i + 1)) (fun p q => p.1 = q.1) := by
        intro hv th' rh' _ e1 e2
        rw [nI_add1, e1, e2]
        exact t_heights ⟨htc, hcap, c3, c4, c5, c6⟩ ⟨hmn, hcap, r3, r4, r5, r6⟩ hok mk ma tkn a b c d mro mre md mo mf n (i + 1) _ _ _ hlt (by omega) (fun j hj => by
          by_cases hji : j = i
          · rw [hji, upd_at, upd_at]
          · rw [upd_ne hji, upd_ne hji]; exact hh j (by omega))
      -- the reference's end of a step
      have href : ∀ k0 k1 : Int32, 1 + zmx k1 k0 = zhn th nd[i] → zw2 (fn_Tree_greatestHeight_L4 tc tl tr n (upd th i (zhn th nd[i])) (if x < zhn th nd[i] then zhn th nd[i] else x) (nI i + 1)) (fn_Ref_height_b80 tkn mk ma (fn_Ref_height_L18 tkn mk ma n) mn a b c d ms ml mr mw mro mre md mo mf rh x (nI i) k1 k0) (fun p q => p.1 = q.1) := by
        intro k0 k1 hk
        have h102 : zw2 (fn_Tree_greatestHeight_L4 tc tl tr n (upd th i (zhn th nd[i])) (if x < zhn th nd[i] then zhn th nd[i] else x) (nI i + 1)) (fn_Ref_height_b102 tkn mk ma (fn_Ref_height_L18 tkn mk ma n) mn a b c d ms ml mr mw mro mre md mo mf rh x (nI i) (nI i) 1 (zmx k1 k0)) (fun p q => p.1 = q.1) := by
          unfold fn_Ref_height_b102 fn_Ref_height_b124
          simp only [nI_clamp (show i < 2 ^ 31 by omega), if_neg hb2, upd_at, hk]
          have := hstep _ _ _ rfl rfl (rfl : upd rh i (zhn th nd[i]) = _)
          rw [zmx_comm, ← zmx_le] at this
          by_cases hx : zhn th nd[i] ≤ x
          · rw [if_pos hx] at this ⊢; exact this
          · rw [if_neg hx] at this ⊢; exact this
        unfold fn_Ref_height_b80
        rw [← zmx_le] at h102
        by_cases hx : k1 ≤ k0
        · rw [if_pos hx] at h102 ⊢; exact h102
        · rw [if_neg hx] at h102 ⊢; exact h102
      have hzh : (1 : Int32) + (if (if nd[i].1 ≤ 2 then 0 else th nd[i].2.2.1) < (if 7 ≤ nd[i].1 ∧ nd[i].1 ≤ 12 then th nd[i].2.2.2 else 0) then (if 7 ≤ nd[i].1 ∧ nd[i].1 ≤ 12 then th nd[i].2.2.2 else 0) else (if nd[i].1 ≤ 2 then 0 else th nd[i].2.2.1)) = zhn th nd[i] := rfl
      rw [hzh]
      have h52 : ∀ k1 k0 : Int32, (if zrr nd[i] = -3 then k0 = 0 else ∃ j, j < i ∧ zrr nd[i] = nI j ∧ k0 = rh j) → 1 + zmx k1 k0 = zhn th nd[i] → zw2 (fn_Tree_greatestHeight_L4 tc tl tr n (upd th i (zhn th nd[i])) (if x < zhn th nd[i] then zhn th nd[i] else x) (nI i + 1)) (fn_Ref_height_b52 tkn mk ma (fn_Ref_height_L18 tkn mk ma n) mn a b c d ms ml mr mw mro mre md mo mf rh x (nI i) k1) (fun p q => p.1 = q.1) := by
        intro k1 k0 h0 hk
        unfold fn_Ref_height_b52
        simp only [nI_clamp (show i < 2 ^ 31 by omega), if_neg hb2, r5 i _ hq]
        by_cases h3 : zrr nd[i] = -3
        · rw [if_pos h3] at h0 ⊢; rw [← h0]; exact href k0 k1 hk
        · rw [if_neg h3] at h0 ⊢
          obtain ⟨j, hj, e1, e2⟩ := h0
          rw [e1, nI_clamp (by omega), if_neg (nI_in2 (by omega) (by omega)), ← e2]
          exact href k0 k1 hk
      by_cases hbin : 7 ≤ nd[i].1 ∧ nd[i].1 ≤ 12
      · have hll := l1 (by omega)
        have hrr := l2 hbin
        have e1 : zrl nd[i] = nI nd[i].2.2.1 := by unfold zrl; rw [if_pos hbin]
        have e2 : zrr nd[i] = nI nd[i].2.2.2 := by unfold zrr; rw [if_pos hbin]
        rw [e1, if_neg (nI_ne_neg (by omega) (by decide)), nI_clamp (by omega), if_neg (nI_in2 (by omega) (by omega))]
        refine h52 _ (rh nd[i].2.2.2) ?_ ?_
        · rw [e2, if_neg (nI_ne_neg (by omega) (by decide))]; exact ⟨_, hrr, rfl, rfl⟩
        · unfold zhn; rw [if_neg (by omega), if_pos hbin, hh _ hll, hh _ hrr]
      · have e1 : zrl nd[i] = -3 := by unfold zrl; rw [if_neg hbin]
        rw [if_pos e1]
        by_cases h2 : nd[i].1 ≤ 2
        · refine h52 0 0 ?_ ?_
          · rw [if_pos (by unfold zrr; rw [if_neg hbin, if_pos h2])]
          · unfold zhn; rw [if_pos h2, if_neg hbin]
        · have hll := l1 h2
          have e2 : zrr nd[i] = nI nd[i].2.2.1 := by unfold zrr; rw [if_neg hbin, if_neg h2]
          refine h52 0 (rh nd[i].2.2.1) ?_ ?_
          · rw [e2, if_neg (nI_ne_neg (by omega) (by decide))]; exact ⟨_, hll, rfl, rfl⟩
          · unfold zhn; rw [if_neg h2, if_neg hbin, hh _ hll, zmx_comm]
end CV
