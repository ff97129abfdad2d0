/-! The same text twice; how many trees. -/
def zfr (eq : Nat → Nat → Bool) (x : Nat) : Nat → Bool
  | 0 => true
  | y + 1 => zfr eq x y && !(eq x y)
def zcn (eq : Nat → Nat → Bool) : Nat → Nat
  | 0 => 0
  | x + 1 => zcn eq x + (if zfr eq x x = true then 1 else 0)
theorem zcn_le (eq : Nat → Nat → Bool) : ∀ x, zcn eq x ≤ x
  | 0 => Nat.le_refl _
  | x + 1 => by
    have := zcn_le eq x
    unfold zcn
    split <;> omega
theorem zcn_step (eq : Nat → Nat → Bool) (x : Nat) : nI (zcn eq x) + zb2 (zfr eq x x) = nI (zcn eq (x + 1)) := by
  rw [zcn]
  cases zfr eq x x with
  | true => exact nI_add1 _
  | false => exact Int32.add_zero _
section SM
variable {N M : Nat} {c c' : Int32} {f f' : Nat → Int32} {l l' : List Nat}
theorem sp_samel (hN : N < 2 ^ 31) (hM : M < 2 ^ 31) (h1 : zstr N c f l) (h2 : zstr M c' f' l') (b1 : ∀ x ∈ l, x < 128) (b2 : ∀ x ∈ l', x < 128) : ∀ (n j : Nat) (b : Bool), (b = true → l.length = l'.length ∧ ∀ k, k < j → l.getD k 0 = l'.getD k 0) → (b = false → l ≠ l') → j ≤ l.length → l.length - j < n → fn_CharRow_isSameAs_L19 N M c f c' f' n (zb2 b) (nI j) = some (zb2 (decide (l = l')))
  | 0, _, _, _, _, _, h => absurd h (Nat.not_lt_zero _)
  | n + 1, j, b, ht, hf, hj, hn => by
    have hlen := h1.2.1
    unfold fn_CharRow_isSameAs_L19 fn_CharRow_isSameAs_b49
    have hg : ¬ ¬ (zb2 b = 0 ∨ zb2 b = 1) := by cases b <;> decide
    rw [h1.1, if_neg hg]
    cases b with
    | false =>
      rw [decide_eq_false (hf rfl)]
      have e0 : zb2 false = 0 := rfl
      split <;> rfl
    | true =>
      obtain ⟨hl, hk⟩ := ht rfl
      by_cases he : j = l.length
      · have : l = l' := List.ext_getElem? fun k => by
          by_cases h : k < l.length
          · have := hk k (by omega)
            rw [List.getElem?_eq_getElem h, List.getElem?_eq_getElem (by omega : k < l'.length)]
            simp only [List.getD, List.getElem?_eq_getElem h, List.getElem?_eq_getElem (by omega : k < l'.length), Option.getD_some] at this
            rw [this]
          · rw [List.getElem?_eq_none (by omega), List.getElem?_eq_none (by omega)]
        rw [if_pos (nI_le (by omega) (by omega)), decide_eq_true this]
      · have hlt : j < l.length := by omega
        have hjlt : j < l'.length := by omega
        rw [if_neg (nI_ge hlt (by omega)), if_neg (by decide), ← h1.1, sp_at hN h1 j (by omega), sp_at hM h2 j (by omega), Option.bind_some, Option.bind_some, if_pos hlt, if_pos hjlt]
        have m1 : l.getD j 0 ∈ l := by rw [List.getD, List.getElem?_eq_getElem hlt]; exact List.getElem_mem hlt
        have m2 : l'.getD j 0 ∈ l' := by rw [List.getD, List.getElem?_eq_getElem hjlt]; exact List.getElem_mem hjlt
        have hi := nI_inj (a := l.getD j 0) (b := l'.getD j 0) (by have := b1 _ m1; omega) (by have := b2 _ m2; omega)
        rw [nI_add1]
        by_cases hc : l.getD j 0 = l'.getD j 0
        · rw [if_pos (hi.mpr hc)]
          exact sp_samel hN hM h1 h2 b1 b2 n (j + 1) true (fun _ => ⟨hl, fun k hk' => by
            by_cases h : k = j
            · rw [h]; exact hc
            · exact hk k (by omega)⟩) (fun h => (by cases h)) hlt (by omega)
        · rw [if_neg (fun h => hc (hi.mp h))]
          exact sp_samel hN hM h1 h2 b1 b2 n (j + 1) false (fun h => (by cases h)) (fun _ h => hc (by rw [h])) hlt (by omega)
theorem sp_same (hN : N < 2 ^ 31) (hM : M < 2 ^ 31) (hN2 : N < 100000) (h1 : zstr N c f l) (h2 : zstr M c' f' l') (b1 : ∀ x ∈ l, x < 128) (b2 : ∀ x ∈ l', x < 128) : fn_CharRow_isSameAs N M c f c' f' = some (zb2 (decide (l = l'))) := by
  have hlen := h1.2.1
  have hlen2 := h2.2.1
  unfold fn_CharRow_isSameAs fn_CharRow_isSameAs_b16 fn_CharRow_size
  by_cases h : l.length = l'.length
  · rw [if_pos (by rw [h1.1, h2.1, h])]
    exact sp_samel hN hM h1 h2 b1 b2 zFU 0 true (fun _ => ⟨h, fun k hk => absurd hk (Nat.not_lt_zero _)⟩) (fun h => (by cases h)) (Nat.zero_le _) (Nat.lt_of_le_of_lt (Nat.sub_le _ _) (Nat.lt_of_le_of_lt hlen hN2))
  · rw [if_neg (fun hh => h ((nI_inj (by omega) (by omega)).mp (by rw [← h1.1, ← h2.1]; exact hh)))]
    exact sp_samel hN hM h1 h2 b1 b2 zFU 0 false (fun h => (by cases h)) (fun _ hh => h (by rw [hh])) (Nat.zero_le _) (Nat.lt_of_le_of_lt (Nat.sub_le _ _) (Nat.lt_of_le_of_lt hlen hN2))
end SM
section TC
variable {pc tc wc bc : Int32} {pf tf wf bf : Nat → Int32} {P : Nat → List Nat}
def zeqP (P : Nat → List Nat) (x y : Nat) : Bool := decide (P x = P y)
/-- the four printed rows -/
def zpr4 (pc : Int32) (pf : Nat → Int32) (tc : Int32) (tf : Nat → Int32) (wc : Int32) (wf : Nat → Int32) (bc : Int32) (bf : Nat → Int32) (P : Nat → List Nat) : Prop :=
  zstr 320 pc pf (P 0) ∧ zstr 320 tc tf (P 1) ∧ zstr 320 wc wf (P 2) ∧ zstr 320 bc bf (P 3) ∧ ∀ i, i < 4 → ∀ c ∈ P i, c < 128
theorem zb2_n (b : Bool) : (zb2 b = 0 ↔ b = false) := by cases b <;> decide
theorem sp_tc0 (h : zpr4 pc pf tc tf wc wf bc bf P) (k : Int32 → Int32 → Option Int32) (Q : Int32 → Prop) (x1 : Int32) (hK : zwp (k (x1 + zb2 (zfr (zeqP P) 0 0)) (nI 1)) Q) : ∀ (n j : Nat), j ≤ 0 → 0 - j < n → zwp (fn_Parser_treeCount_L24_v11 pc pf tc tf wc wf bc bf k n x1 (nI 0) (zb2 (zfr (zeqP P) 0 j)) (nI j)) Q
  | 0, _, _, h => absurd h (Nat.not_lt_zero _)
  | n + 1, j, hj, hn => by
    obtain ⟨h0, h1, h2, h3, hb⟩ := h
    unfold fn_Parser_treeCount_L24_v11 fn_Parser_treeCount_b55_v12 fn_Parser_treeCount_b56_v13 fn_Parser_treeCount_b75
    by_cases he : j = 0
    · refine zwp_t (nI_le (by omega) (by omega)) ?_
      rw [he]
      have e2 : nI 0 + 1 = nI 1 := nI_add1 0
      rw [e2]
      cases hz : zfr (zeqP P) 0 0 with
      | false => rw [hz] at hK; exact zwp_t rfl hK
      | true => rw [hz] at hK; exact zwp_f (by decide) hK
    · omega
theorem sp_tc1 (h : zpr4 pc pf tc tf wc wf bc bf P) (k : Int32 → Int32 → Option Int32) (Q : Int32 → Prop) (x1 : Int32) (hK : zwp (k (x1 + zb2 (zfr (zeqP P) 1 1)) (nI 2)) Q) : ∀ (n j : Nat), j ≤ 1 → 1 - j < n → zwp (fn_Parser_treeCount_L24 pc pf tc tf wc wf bc bf k n x1 (nI 1) (zb2 (zfr (zeqP P) 1 j)) (nI j)) Q
  | 0, _, _, h => absurd h (Nat.not_lt_zero _)
  | n + 1, j, hj, hn => by
    obtain ⟨h0, h1, h2, h3, hb⟩ := h
    unfold fn_Parser_treeCount_L24 fn_Parser_treeCount_b55 fn_Parser_treeCount_b56 fn_Parser_treeCount_b75
    by_cases he : j = 1
    · refine zwp_t (nI_le (by omega) (by omega)) ?_
      rw [he]
      have e2 : nI 1 + 1 = nI 2 := nI_add1 1
      rw [e2]
      cases hz : zfr (zeqP P) 1 1 with
      | false => rw [hz] at hK; exact zwp_t rfl hK
      | true => rw [hz] at hK; exact zwp_f (by decide) hK
    have hlt : j < 1 := by omega
    refine zwp_f (nI_ge hlt (by omega)) ?_
    rw [nI_add1]
    cases hz : zfr (zeqP P) 1 j with
    | false =>
      have e1 : zfr (zeqP P) 1 (j + 1) = false := by rw [zfr, hz]; rfl
      have := sp_tc1 ⟨h0, h1, h2, h3, hb⟩ k Q x1 hK n (j + 1) hlt (by omega)
      rw [e1] at this
      exact zwp_t rfl this
    | true =>
      refine zwp_f (by decide) ?_
      have hcmp : ∀ b : Bool, b = zeqP P 1 j → ∀ v : Int32, v = zb2 (!b) → zwp (fn_Parser_treeCount_L24 pc pf tc tf wc wf bc bf k n x1 (nI 1) v (nI (j + 1))) Q := by
        intro b hb' v hv
        have e1 : zfr (zeqP P) 1 (j + 1) = !b := by rw [zfr, hz, hb']; rfl
        have := sp_tc1 ⟨h0, h1, h2, h3, hb⟩ k Q x1 hK n (j + 1) hlt (by omega)
        rw [e1] at this
        rw [hv]; exact this
      have hj' : j = 0 := by omega
      subst hj'
      refine zwp_f (by decide) (zwp_f (by decide) (zwp_f (by decide) ?_))
      rw [sp_same (by decide) (by decide) (by decide) h1 h0 (hb 1 (by decide)) (hb 0 (by decide)), Option.bind_some]
      cases hd : decide (P 1 = P 0) with
      | false => exact zwp_t rfl (hcmp false hd.symm 1 rfl)
      | true => exact zwp_f (by decide) (hcmp true hd.symm 0 rfl)
theorem sp_tc2 (h : zpr4 pc pf tc tf wc wf bc bf P) (k : Int32 → Int32 → Option Int32) (Q : Int32 → Prop) (x1 : Int32) (hK : zwp (k (x1 + zb2 (zfr (zeqP P) 2 2)) (nI 3)) Q) : ∀ (n j : Nat), j ≤ 2 → 2 - j < n → zwp (fn_Parser_treeCount_L24_v5 pc pf tc tf wc wf bc bf k n x1 (nI 2) (zb2 (zfr (zeqP P) 2 j)) (nI j)) Q
  | 0, _, _, h => absurd h (Nat.not_lt_zero _)
  | n + 1, j, hj, hn => by
    obtain ⟨h0, h1, h2, h3, hb⟩ := h
    unfold fn_Parser_treeCount_L24_v5 fn_Parser_treeCount_b55_v6 fn_Parser_treeCount_b56_v7 fn_Parser_treeCount_b75
    by_cases he : j = 2
    · refine zwp_t (nI_le (by omega) (by omega)) ?_
      rw [he]
      have e2 : nI 2 + 1 = nI 3 := nI_add1 2
      rw [e2]
      cases hz : zfr (zeqP P) 2 2 with
      | false => rw [hz] at hK; exact zwp_t rfl hK
      | true => rw [hz] at hK; exact zwp_f (by decide) hK
    have hlt : j < 2 := by omega
    refine zwp_f (nI_ge hlt (by omega)) ?_
    rw [nI_add1]
    cases hz : zfr (zeqP P) 2 j with
    | false =>
      have e1 : zfr (zeqP P) 2 (j + 1) = false := by rw [zfr, hz]; rfl
      have := sp_tc2 ⟨h0, h1, h2, h3, hb⟩ k Q x1 hK n (j + 1) hlt (by omega)
      rw [e1] at this
      exact zwp_t rfl this
    | true =>
      refine zwp_f (by decide) ?_
      have hcmp : ∀ b : Bool, b = zeqP P 2 j → ∀ v : Int32, v = zb2 (!b) → zwp (fn_Parser_treeCount_L24_v5 pc pf tc tf wc wf bc bf k n x1 (nI 2) v (nI (j + 1))) Q := by
        intro b hb' v hv
        have e1 : zfr (zeqP P) 2 (j + 1) = !b := by rw [zfr, hz, hb']; rfl
        have := sp_tc2 ⟨h0, h1, h2, h3, hb⟩ k Q x1 hK n (j + 1) hlt (by omega)
        rw [e1] at this
        rw [hv]; exact this
      have hj' : j = 0 ∨ j = 1 := by omega
      rcases hj' with rfl | rfl
      · refine zwp_f (by decide) (zwp_f (by decide) (zwp_f (by decide) ?_))
        rw [sp_same (by decide) (by decide) (by decide) h2 h0 (hb 2 (by decide)) (hb 0 (by decide)), Option.bind_some]
        cases hd : decide (P 2 = P 0) with
        | false => exact zwp_t rfl (hcmp false hd.symm 1 rfl)
        | true => exact zwp_f (by decide) (hcmp true hd.symm 0 rfl)
      · refine zwp_t rfl ?_
        rw [sp_same (by decide) (by decide) (by decide) h2 h1 (hb 2 (by decide)) (hb 1 (by decide)), Option.bind_some]
        cases hd : decide (P 2 = P 1) with
        | false => exact zwp_t rfl (hcmp false hd.symm 1 rfl)
        | true => exact zwp_f (by decide) (hcmp true hd.symm 0 rfl)
theorem sp_tc3 (h : zpr4 pc pf tc tf wc wf bc bf P) (k : Int32 → Int32 → Option Int32) (Q : Int32 → Prop) (x1 : Int32) (hK : zwp (k (x1 + zb2 (zfr (zeqP P) 3 3)) (nI 4)) Q) : ∀ (n j : Nat), j ≤ 3 → 3 - j < n → zwp (fn_Parser_treeCount_L24_v8 pc pf tc tf wc wf bc bf k n x1 (nI 3) (zb2 (zfr (zeqP P) 3 j)) (nI j)) Q
  | 0, _, _, h => absurd h (Nat.not_lt_zero _)
  | n + 1, j, hj, hn => by
    obtain ⟨h0, h1, h2, h3, hb⟩ := h
    unfold fn_Parser_treeCount_L24_v8 fn_Parser_treeCount_b55_v9 fn_Parser_treeCount_b56_v10 fn_Parser_treeCount_b75
    by_cases he : j = 3
    · refine zwp_t (nI_le (by omega) (by omega)) ?_
      rw [he]
      have e2 : nI 3 + 1 = nI 4 := nI_add1 3
      rw [e2]
      cases hz : zfr (zeqP P) 3 3 with
      | false => rw [hz] at hK; exact zwp_t rfl hK
      | true => rw [hz] at hK; exact zwp_f (by decide) hK
    have hlt : j < 3 := by omega
    refine zwp_f (nI_ge hlt (by omega)) ?_
    rw [nI_add1]
    cases hz : zfr (zeqP P) 3 j with
    | false =>
      have e1 : zfr (zeqP P) 3 (j + 1) = false := by rw [zfr, hz]; rfl
      have := sp_tc3 ⟨h0, h1, h2, h3, hb⟩ k Q x1 hK n (j + 1) hlt (by omega)
      rw [e1] at this
      exact zwp_t rfl this
    | true =>
      refine zwp_f (by decide) ?_
      have hcmp : ∀ b : Bool, b = zeqP P 3 j → ∀ v : Int32, v = zb2 (!b) → zwp (fn_Parser_treeCount_L24_v8 pc pf tc tf wc wf bc bf k n x1 (nI 3) v (nI (j + 1))) Q := by
        intro b hb' v hv
        have e1 : zfr (zeqP P) 3 (j + 1) = !b := by rw [zfr, hz, hb']; rfl
        have := sp_tc3 ⟨h0, h1, h2, h3, hb⟩ k Q x1 hK n (j + 1) hlt (by omega)
        rw [e1] at this
        rw [hv]; exact this
      have hj' : j = 0 ∨ j = 1 ∨ j = 2 := by omega
      rcases hj' with rfl | rfl | rfl
      · refine zwp_f (by decide) (zwp_f (by decide) (zwp_f (by decide) ?_))
        rw [sp_same (by decide) (by decide) (by decide) h3 h0 (hb 3 (by decide)) (hb 0 (by decide)), Option.bind_some]
        cases hd : decide (P 3 = P 0) with
        | false => exact zwp_t rfl (hcmp false hd.symm 1 rfl)
        | true => exact zwp_f (by decide) (hcmp true hd.symm 0 rfl)
      · refine zwp_t rfl ?_
        rw [sp_same (by decide) (by decide) (by decide) h3 h1 (hb 3 (by decide)) (hb 1 (by decide)), Option.bind_some]
        cases hd : decide (P 3 = P 1) with
        | false => exact zwp_t rfl (hcmp false hd.symm 1 rfl)
        | true => exact zwp_f (by decide) (hcmp true hd.symm 0 rfl)
      · refine zwp_f (by decide) (zwp_t rfl ?_)
        rw [sp_same (by decide) (by decide) (by decide) h3 h2 (hb 3 (by decide)) (hb 2 (by decide)), Option.bind_some]
        cases hd : decide (P 3 = P 2) with
        | false => exact zwp_t rfl (hcmp false hd.symm 1 rfl)
        | true => exact zwp_f (by decide) (hcmp true hd.symm 0 rfl)
theorem sp_tcl (h : zpr4 pc pf tc tf wc wf bc bf P) : ∀ (n x : Nat), x ≤ 4 → 4 - x < n → zwp (fn_Parser_treeCount_L4 pc pf tc tf wc wf bc bf n (nI (zcn (zeqP P) x)) (nI x)) (fun r => r = nI (zcn (zeqP P) 4))
  | 0, _, _, h => absurd h (Nat.not_lt_zero _)
  | n + 1, x, hx, hn => by
    unfold fn_Parser_treeCount_L4
    by_cases he : x = 4
    · subst he
      exact zwp_t (by decide) (zwp_some rfl)
    refine zwp_f (show ¬ nI 4 ≤ nI x from nI_ge (by omega) (by omega)) ?_
    have hnx := sp_tcl h n (x + 1) (by omega) (by omega)
    rw [← zcn_step] at hnx
    have hx' : x = 0 ∨ x = 1 ∨ x = 2 ∨ x = 3 := by omega
    rcases hx' with rfl | rfl | rfl | rfl
    · exact zwp_f (by decide) (zwp_f (by decide) (zwp_f (by decide) (sp_tc0 h _ _ _ hnx zFU 0 (Nat.zero_le _) (by decide))))
    · exact zwp_t rfl (sp_tc1 h _ _ _ hnx zFU 0 (Nat.zero_le _) (by decide))
    · exact zwp_f (by decide) (zwp_t rfl (sp_tc2 h _ _ _ hnx zFU 0 (Nat.zero_le _) (by decide)))
    · exact zwp_f (by decide) (zwp_f (by decide) (zwp_t rfl (sp_tc3 h _ _ _ hnx zFU 0 (Nat.zero_le _) (by decide))))
theorem sp_treeCount (h : zpr4 pc pf tc tf wc wf bc bf P) : zwp (fn_Parser_treeCount pc pf tc tf wc wf bc bf) (fun r => r = nI (zcn (zeqP P) 4)) := by
  unfold fn_Parser_treeCount
  exact sp_tcl h zFU 0 (by omega) (by decide)
end TC
/-! The reference counts trees. -/
theorem zdigs_ch (d : Nat) : ∀ c ∈ zdigs d, 48 ≤ c ∧ c < 58 := by
  intro c hc
  unfold zdigs at hc
  repeat' split at hc
  all_goals
    simp only [List.mem_cons, List.mem_nil_iff, or_false] at hc
    omega
theorem zsym_ch : ∀ k, k < 25 → ∀ c ∈ zsym k, 32 < c ∧ c < 127 := by decide +kernel
theorem zprt_ch {nd : List (Nat × Nat × Nat × Nat)} (h : znok nd) : ∀ (n i : Nat), i < n → i < nd.length → ∀ c ∈ zprt nd i, 32 < c ∧ c < 127
  | 0, _, h, _ => absurd h (Nat.not_lt_zero _)
  | n + 1, i, hn, hi => by
    intro c hc
    have hq := List.getElem?_eq_getElem hi
    have hzk := h i _ hq
    obtain ⟨l1, l2, l3, l4⟩ := znk_lt hzk
    rw [zprt_eq h hq] at hc
    generalize nd[i] = q at *
    by_cases e1 : q.1 = 1
    · rw [if_pos e1] at hc; have := zdigs_ch _ c hc; omega
    rw [if_neg e1] at hc
    by_cases e2 : q.1 = 2
    · rw [if_pos e2] at hc
      rw [List.mem_singleton] at hc
      unfold znk at hzk
      rcases hzk with h | h | ⟨h, -⟩ | ⟨h, -⟩ | ⟨h, -⟩ <;> omega
    rw [if_neg e2] at hc
    have hl := l1 (by omega)
    have ih1 := zprt_ch h n q.2.2.1 (by omega) (by omega) c
    by_cases e6 : q.1 ≤ 6
    · rw [if_pos e6] at hc
      simp only [List.mem_append, List.mem_singleton, List.mem_replicate] at hc
      rcases hc with ((hc | hc) | hc) | hc | hc
      · exact zsym_ch q.1 (by omega) c hc
      · omega
      · omega
      · exact ih1 hc
      · omega
    rw [if_neg e6] at hc
    by_cases e13 : q.1 = 13
    · rw [if_pos e13] at hc
      simp only [List.mem_append, List.mem_cons, List.mem_nil_iff, or_false] at hc
      rcases hc with (hc | hc) | hc | hc
      · omega
      · omega
      · exact ih1 hc
      · omega
    have hr := l2 (by omega)
    have ih2 := zprt_ch h n q.2.2.2 (by omega) (by omega) c
    rw [if_neg e13] at hc
    simp only [List.mem_append, List.mem_singleton] at hc
    rcases hc with hc | hc | hc | hc | hc
    · omega
    · exact ih1 hc
    · exact zsym_ch q.1 (by omega) c hc
    · exact ih2 hc
    · omega
theorem zprall_ch {nd : List (Nat × Nat × Nat × Nat)} (h : znok nd) : ∀ (S : List (Nat × Nat)), (∀ q ∈ S, q.2 < nd.length) → (∀ q ∈ S, q.1 = 0 ∨ 14 ≤ q.1 ∧ q.1 ≤ 21) → ∀ c ∈ zprall nd S, 32 < c ∧ c < 127
  | [], _, _ => fun c hc => by simp [zprall] at hc
  | q :: S, hr, hj => by
    intro c hc
    have hc' : c ∈ (if q.1 = 0 then [] else zsym q.1) ++ (zprt nd q.2 ++ zprall nd S) := hc
    rw [List.mem_append, List.mem_append] at hc'
    rcases hc' with hc' | hc' | hc'
    · by_cases h0 : q.1 = 0
      · rw [if_pos h0] at hc'; simp at hc'
      · rw [if_neg h0] at hc'
        have := hj q (by simp)
        exact zsym_ch q.1 (by omega) c hc'
    · exact zprt_ch h (q.2 + 1) q.2 (by omega) (hr q (by simp)) c hc'
    · exact zprall_ch h S (fun x hx => hr x (by simp [hx])) (fun x hx => hj x (by simp [hx])) c hc'
/-- a reading's nodes, sums, printed and spoken text -/
def zNd (l : List (Nat × Nat × Nat)) (rd : Nat) : List (Nat × Nat × Nat × Nat) := (zbuild (zrt_t rd) (zrt_w rd) l).1
def zSu (l : List (Nat × Nat × Nat)) (rd : Nat) : List (Nat × Nat) := (zbuild (zrt_t rd) (zrt_w rd) l).2
def zPx (l : List (Nat × Nat × Nat)) (rd : Nat) : List Nat := zprall (zNd l rd) (zSu l rd)
def zVx (l : List (Nat × Nat × Nat)) (rd : Nat) : List Nat := zvall (zNd l rd) (zSu l rd)
theorem zfitw_P {nd : List (Nat × Nat × Nat × Nat)} {S : List (Nat × Nat)} (h : zfitw nd S) : (zprall nd S).length ≤ 320 ∧ (zvall nd S).length ≤ 1440 ∧ ∀ c ∈ zprall nd S, 32 < c ∧ c < 127 := by
  obtain ⟨j1, j2, j3⟩ := zfit_J h
  obtain ⟨g1, g2, g3, g4, -, c1, cp, cs⟩ := h
  have hm := zjok_mem (zjok_of j1 j2)
  refine ⟨by rw [zprall_len g1 S g3 hm]; exact cp, Nat.le_trans (zvall_len g1 S g3 hm) cs, zprall_ch g1 S g3 hm⟩
/-- tokens that make four fit trees -/
def zfour (l : List (Nat × Nat × Nat)) : Prop := zform l ∧ (∀ q ∈ l, ztd q) ∧ ∀ rd, rd < 4 → zfitw (zNd l rd) (zSu l rd)
theorem zfour_of {tx : List Nat} (hx : ztx tx) (hf : zform (zTK tx)) : zfour (zTK tx) := ⟨hf, ztoks_td _ _ _ (fun c hc => (hx.2 c hc).2), fun rd _ => zfit_of hx hf⟩
section RT
variable {P : Nat → List Nat} {mk ma : Nat → Int32} {tk : Int32}
abbrev zTo : Type := Int32 × Int32 × Int32 × Int32 × Int32 × Int32 × Int32 × Int32 × (Nat → Int32) × (Nat → Int32) × (Nat → Int32) × (Nat → Int32) × (Nat → Int32) × (Nat → Int32) × (Nat → Int32) × (Nat → Int32) × (Nat → Int32) × (Nat → Int32) × (Nat → Int32) × (Nat → Int32) × (Nat → Int32)
abbrev zTk : Type := Int32 → Int32 → Int32 → Int32 → Int32 → Int32 → Int32 → (Nat → Int32) → (Nat → Int32) → (Nat → Int32) → (Nat → Int32) → (Nat → Int32) → (Nat → Int32) → (Nat → Int32) → (Nat → Int32) → (Nat → Int32) → (Nat → Int32) → (Nat → Int32) → (Nat → Int32) → (Nat → Int32) → Int32 → Int32 → Option zTo
/-- the forms kept so far -/
def zfo (P : Nat → List Nat) (fm fl : Nat → Int32) (x : Nat) : Prop := ∀ y, y < x → fl y = nI (P y).length ∧ ∀ i, i < (P y).length → fm (600 * y + i) = nI ((P y).getD i 0)
theorem z600 (x j : Nat) : (600 : Int32) * nI x + nI j = nI (600 * x + j) := by rw [show (600 : Int32) = nI 600 from rfl, nI_mulz, nI_add]
theorem rp_same (k : zTk) (k63 : Int32 → Int32 → Int32 → Int32 → Int32 → Int32 → Int32 → (Nat → Int32) → (Nat → Int32) → (Nat → Int32) → (Nat → Int32) → (Nat → Int32) → (Nat → Int32) → (Nat → Int32) → (Nat → Int32) → (Nat → Int32) → (Nat → Int32) → (Nat → Int32) → (Nat → Int32) → (Nat → Int32) → Int32 → Int32 → Int32 → Int32 → Option zTo) (Q : zTo → Prop) (s1 s2 s3 s4 s5 oc tkm : Int32) (e1 e2 e3 e4 e5 e6 e7 e8 e9 o t : Nat → Int32) (fm fl : Nat → Int32) (x1 : Int32) (x y : Nat) (fg : Bool) (hx : x < 4) (hy : y < x) (h6 : ∀ i, i < 4 → (P i).length ≤ 320 ∧ ∀ c ∈ P i, c < 128) (hoc : oc = nI (P x).length) (hfo : zfo P fm fl (x + 1))
    (hK : ∀ f : Bool, f = (fg && !(zeqP P x y)) → zwp (k63 s1 s2 s3 s4 s5 oc tkm e1 e2 e3 e4 e5 e6 e7 e8 e9 o t fm fl x1 (nI x) (zb2 f) (nI (y + 1))) Q) : ∀ (n i : Nat) (b : Bool), (b = true → (P x).length = (P y).length ∧ ∀ j, j < i → (P x).getD j 0 = (P y).getD j 0) → (b = false → P x ≠ P y) → i ≤ (P x).length → (P x).length - i < n →
    zwp (fn_Ref_treeCount_L95 tk mk ma k k63 n s1 s2 s3 s4 s5 oc tkm e1 e2 e3 e4 e5 e6 e7 e8 e9 o t fm fl x1 (nI x) (zb2 fg) (nI y) (zb2 b) (nI i)) Q
  | 0, _, _, _, _, _, h => absurd h (Nat.not_lt_zero _)
  | n + 1, i, b, ht, hf, hi, hn => by
    have hx6 := h6 x hx
    have hy6 := h6 y (by omega)
    have h152 : ∀ b : Bool, b = zeqP P x y → zwp (fn_Ref_treeCount_b152 tk mk ma k k63 s1 s2 s3 s4 s5 oc tkm e1 e2 e3 e4 e5 e6 e7 e8 e9 o t fm fl x1 (nI x) (zb2 fg) (nI y) (zb2 b)) Q := by
      intro b hb
      unfold fn_Ref_treeCount_b152 fn_Ref_treeCount_b165 fn_Ref_treeCount_b166
      rw [nI_add1]
      cases fg with
      | false => exact zwp_t rfl (hK false (by rfl))
      | true =>
        refine zwp_f (by decide) ?_
        rw [← hb] at hK
        cases b with
        | false => exact zwp_t rfl (hK true rfl)
        | true => exact zwp_f (by decide) (hK false rfl)
    unfold fn_Ref_treeCount_L95
    cases b with
    | false =>
      have hfin := h152 false (decide_eq_false (hf rfl)).symm
      exact zwp_ite (fun _ => hfin) (fun _ => zwp_t rfl hfin)
    | true =>
      obtain ⟨hl, hk⟩ := ht rfl
      by_cases he : i = (P x).length
      · refine zwp_t (by rw [hoc]; exact nI_le (by omega) (by omega)) (h152 true ?_)
        have : P x = P y := List.ext_getElem? fun j => by
          by_cases h : j < (P x).length
          · have := hk j (by omega)
            rw [List.getElem?_eq_getElem h, List.getElem?_eq_getElem (by omega : j < (P y).length)]
            simp only [List.getD, List.getElem?_eq_getElem h, List.getElem?_eq_getElem (by omega : j < (P y).length), Option.getD_some] at this
            rw [this]
          · rw [List.getElem?_eq_none (by omega), List.getElem?_eq_none (by omega)]
        exact (decide_eq_true this).symm
      · have hlt : i < (P x).length := by omega
        have hlty : i < (P y).length := by omega
        refine zwp_f (by rw [hoc]; exact nI_ge hlt (by omega)) (zwp_f (by decide) ?_)
        rw [z600, z600, nI_clamp (by omega), nI_clamp (by omega), (hfo y (by omega)).2 i hlty, (hfo x (by omega)).2 i hlt]
        refine zwp_f (nI_in2 (by omega) (by omega)) (zwp_f (nI_in2 (by omega) (by omega)) ?_)
        have m1 : (P x).getD i 0 ∈ P x := by rw [List.getD, List.getElem?_eq_getElem hlt]; exact List.getElem_mem hlt
        have m2 : (P y).getD i 0 ∈ P y := by rw [List.getD, List.getElem?_eq_getElem hlty]; exact List.getElem_mem hlty
        have hin := nI_inj (a := (P y).getD i 0) (b := (P x).getD i 0) (by have := hy6.2 _ m2; omega) (by have := hx6.2 _ m1; omega)
        unfold fn_Ref_treeCount_b144
        rw [nI_add1]
        by_cases hc : (P y).getD i 0 = (P x).getD i 0
        · exact zwp_t (hin.mpr hc) (rp_same k k63 Q s1 s2 s3 s4 s5 oc tkm e1 e2 e3 e4 e5 e6 e7 e8 e9 o t fm fl x1 x y fg hx hy h6 hoc hfo hK n (i + 1) true (fun _ => ⟨hl, fun j hj => by
            by_cases h : j = i
            · rw [h]; exact hc.symm
            · exact hk j (by omega)⟩) (fun h => (by cases h)) hlt (by omega))
        · exact zwp_f (fun h => hc (hin.mp h)) (rp_same k k63 Q s1 s2 s3 s4 s5 oc tkm e1 e2 e3 e4 e5 e6 e7 e8 e9 o t fm fl x1 x y fg hx hy h6 hoc hfo hK n (i + 1) false (fun h => (by cases h)) (fun _ h => hc (by rw [h])) hlt (by omega))
theorem rp_fresh (k : zTk) (Q : zTo → Prop) (s1 s2 s3 s4 s5 oc tkm : Int32) (e1 e2 e3 e4 e5 e6 e7 e8 e9 o t : Nat → Int32) (fm fl : Nat → Int32) (x1 : Int32) (x : Nat) (hx : x < 4) (h6 : ∀ i, i < 4 → (P i).length ≤ 320 ∧ ∀ c ∈ P i, c < 128) (hoc : oc = nI (P x).length) (hfo : zfo P fm fl (x + 1))
    (hK : zwp (k s1 s2 s3 s4 s5 oc tkm e1 e2 e3 e4 e5 e6 e7 e8 e9 o t fm fl (x1 + zb2 (zfr (zeqP P) x x)) (nI (x + 1))) Q) : ∀ (n y : Nat), y ≤ x → x - y < n → zwp (fn_Ref_treeCount_L63 tk mk ma k n s1 s2 s3 s4 s5 oc tkm e1 e2 e3 e4 e5 e6 e7 e8 e9 o t fm fl x1 (nI x) (zb2 (zfr (zeqP P) x y)) (nI y)) Q
  | 0, _, _, h => absurd h (Nat.not_lt_zero _)
  | n + 1, y, hy, hn => by
    have hx6 := h6 x hx
    have hy6 := h6 y (by omega)
    unfold fn_Ref_treeCount_L63
    by_cases he : y = x
    · refine zwp_t (nI_le (by omega) (by omega)) ?_
      unfold fn_Ref_treeCount_b183
      rw [nI_add1, he]
      cases hz : zfr (zeqP P) x x with
      | false => rw [hz] at hK; exact zwp_t rfl hK
      | true => rw [hz] at hK; exact zwp_f (by decide) hK
    · have hlt : y < x := by omega
      refine zwp_f (nI_ge hlt (by omega)) ?_
      rw [nI_clamp (by omega), nI_clamp (by omega)]
      refine zwp_f (nI_in2 (by omega) (by omega)) (zwp_f (nI_in2 (by omega) (by omega)) ?_)
      have hnx := rp_fresh k Q s1 s2 s3 s4 s5 oc tkm e1 e2 e3 e4 e5 e6 e7 e8 e9 o t fm fl x1 x hx h6 hoc hfo hK n (y + 1) hlt (by omega)
      have hK' : ∀ f : Bool, f = (zfr (zeqP P) x y && !(zeqP P x y)) → zwp (fn_Ref_treeCount_L63 tk mk ma k n s1 s2 s3 s4 s5 oc tkm e1 e2 e3 e4 e5 e6 e7 e8 e9 o t fm fl x1 (nI x) (zb2 f) (nI (y + 1))) Q := by
        intro f hf
        rw [hf]; exact hnx
      have hle : (P x).length - 0 < zFU := Nat.lt_of_le_of_lt (by omega : (P x).length - 0 ≤ 320) (by decide)
      unfold fn_Ref_treeCount_b90
      rw [(hfo y (by omega)).1, (hfo x (by omega)).1]
      by_cases hl : (P y).length = (P x).length
      · exact zwp_t (by rw [hl]) (rp_same k _ Q s1 s2 s3 s4 s5 oc tkm e1 e2 e3 e4 e5 e6 e7 e8 e9 o t fm fl x1 x y _ hx hlt h6 hoc hfo hK' zFU 0 true (fun _ => ⟨hl.symm, fun j hj => absurd hj (Nat.not_lt_zero _)⟩) (fun h => (by cases h)) (Nat.zero_le _) hle)
      · exact zwp_f (fun h => hl ((nI_inj (by omega) (by omega)).mp h)) (rp_same k _ Q s1 s2 s3 s4 s5 oc tkm e1 e2 e3 e4 e5 e6 e7 e8 e9 o t fm fl x1 x y _ hx hlt h6 hoc hfo hK' zFU 0 false (fun h => (by cases h)) (fun _ h => hl (by rw [h])) (Nat.zero_le _) hle)
theorem rp_copy (k : zTk) (Q : zTo → Prop) (s1 s2 s3 s4 s5 oc tkm : Int32) (e1 e2 e3 e4 e5 e6 e7 e8 e9 o t : Nat → Int32) (fl : Nat → Int32) (x1 : Int32) (x : Nat) (hx : x < 4) (l : List Nat) (hl : l.length ≤ 320) (ho : zro oc o l) : ∀ (n i : Nat) (fm : Nat → Int32), i ≤ l.length → l.length - i < n → (∀ j, j < i → fm (600 * x + j) = nI (l.getD j 0)) →
    (∀ fm', (∀ j, j < l.length → fm' (600 * x + j) = nI (l.getD j 0)) → (∀ m, m < 600 * x → fm' m = fm m) → zwp (fn_Ref_treeCount_L63 tk mk ma k zFU s1 s2 s3 s4 s5 oc tkm e1 e2 e3 e4 e5 e6 e7 e8 e9 o t fm' fl x1 (nI x) 1 0) Q) → zwp (fn_Ref_treeCount_L26 tk mk ma k n s1 s2 s3 s4 s5 oc tkm e1 e2 e3 e4 e5 e6 e7 e8 e9 o t fm fl x1 (nI x) (nI i)) Q
  | 0, _, _, _, h, _, _ => absurd h (Nat.not_lt_zero _)
  | n + 1, i, fm, hi, hn, hf, hK => by
    unfold fn_Ref_treeCount_L26
    by_cases he : i = l.length
    · refine zwp_t (by rw [ho.1]; exact nI_le (by omega) (by omega)) (hK fm (fun j hj => hf j (by omega)) (fun _ _ => rfl))
    · have hlt : i < l.length := by omega
      refine zwp_f (by rw [ho.1]; exact nI_ge hlt (by omega)) ?_
      rw [z600, nI_clamp (by omega), nI_clamp (by omega), nI_add1]
      refine zwp_f (nI_in2 (by omega) (by omega)) (zwp_f (nI_in2 (by omega) (by omega)) ?_)
      refine rp_copy k Q s1 s2 s3 s4 s5 oc tkm e1 e2 e3 e4 e5 e6 e7 e8 e9 o t fl x1 x hx l hl ho n (i + 1) _ hlt (by omega) (fun j hj => ?_) (fun fm' h1 h2 => hK fm' h1 (fun m hm => ?_))
      · by_cases hji : j = i
        · rw [hji, upd_at]; exact zrw_getD ho.2 hlt
        · rw [upd_ne (by omega)]; exact hf j (by omega)
      · rw [h2 m hm, upd_ne (by omega)]
theorem rp_tcl {l : List (Nat × Nat × Nat)} (hq : zqr mk ma l) (h4 : zfour l) : ∀ (n x : Nat) (s1 s2 s3 s4 s5 oc tkm : Int32) (e1 e2 e3 e4 e5 e6 e7 e8 e9 o t : Nat → Int32) (fm fl : Nat → Int32), x ≤ 4 → 4 - x < n → zfo (zPx l) fm fl x →
    zwp (fn_Ref_treeCount_L4 (nI l.length) mk ma n s1 s2 s3 s4 s5 oc tkm e1 e2 e3 e4 e5 e6 e7 e8 e9 o t fm fl (nI (zcn (zeqP (zPx l)) x)) (nI x)) (fun r => r.1 = nI (zcn (zeqP (zPx l)) 4))
  | 0, _, _, _, _, _, _, _, _, _, _, _, _, _, _, _, _, _, _, _, _, _, _, h, _ => absurd h (Nat.not_lt_zero _)
  | n + 1, x, s1, s2, s3, s4, s5, oc, tkm, e1, e2, e3, e4, e5, e6, e7, e8, e9, o, t, fm, fl, hx, hn, hfo => by
    unfold fn_Ref_treeCount_L4
    by_cases he : x = 4
    · subst he
      exact zwp_t (by decide) (zwp_some rfl)
    have hlt : x < 4 := by omega
    refine zwp_f (show ¬ nI 4 ≤ nI x from nI_ge (by omega) (by omega)) ?_
    refine zwp_seq (rp_print hq h4.1 x hlt (h4.2.2 x hlt) s1 s2 s3 s4 s5 oc tkm e1 e2 e3 e4 e5 e6 e7 e8 e9 o t) (fun r hr => ?_)
    have ho : zro r.2.2.2.2.2.1 r.2.2.2.2.2.2.2.2.2.2.2.2.2.2.2.2.1 (zPx l x) := hr.2
    obtain ⟨p1, -, p3⟩ := zfitw_P (h4.2.2 x hlt)
    have p1' : (zPx l x).length ≤ 320 := p1
    rw [nI_clamp (by omega)]
    refine zwp_f (nI_in2 (by omega) (by omega)) ?_
    refine rp_copy _ _ r.1 r.2.1 r.2.2.1 r.2.2.2.1 r.2.2.2.2.1 r.2.2.2.2.2.1 r.2.2.2.2.2.2.1 r.2.2.2.2.2.2.2.1 r.2.2.2.2.2.2.2.2.1 r.2.2.2.2.2.2.2.2.2.1 r.2.2.2.2.2.2.2.2.2.2.1 r.2.2.2.2.2.2.2.2.2.2.2.1 r.2.2.2.2.2.2.2.2.2.2.2.2.1 r.2.2.2.2.2.2.2.2.2.2.2.2.2.1 r.2.2.2.2.2.2.2.2.2.2.2.2.2.2.1 r.2.2.2.2.2.2.2.2.2.2.2.2.2.2.2.1 r.2.2.2.2.2.2.2.2.2.2.2.2.2.2.2.2.1 r.2.2.2.2.2.2.2.2.2.2.2.2.2.2.2.2.2 _ _ x hlt (zPx l x) p1' ho zFU 0 fm (Nat.zero_le _) (Nat.lt_of_le_of_lt (by omega : (zPx l x).length - 0 ≤ 320) (by decide)) (fun j hj => absurd hj (Nat.not_lt_zero _)) (fun fm' f1 f2 => ?_)
    have hfo' : zfo (zPx l) fm' (upd fl x r.2.2.2.2.2.1) (x + 1) := by
      intro y hy
      by_cases hyx : y = x
      · subst hyx
        rw [upd_at]; exact ⟨ho.1, f1⟩
      · have := hfo y (by omega)
        rw [upd_ne hyx]
        refine ⟨this.1, fun i hi => ?_⟩
        have : (zPx l y).length ≤ 320 := (zfitw_P (h4.2.2 y (by omega))).1
        rw [f2 _ (by omega)]; exact (hfo y (by omega)).2 i hi
    refine rp_fresh (P := zPx l) _ _ r.1 r.2.1 r.2.2.1 r.2.2.2.1 r.2.2.2.2.1 r.2.2.2.2.2.1 r.2.2.2.2.2.2.1 r.2.2.2.2.2.2.2.1 r.2.2.2.2.2.2.2.2.1 r.2.2.2.2.2.2.2.2.2.1 r.2.2.2.2.2.2.2.2.2.2.1 r.2.2.2.2.2.2.2.2.2.2.2.1 r.2.2.2.2.2.2.2.2.2.2.2.2.1 r.2.2.2.2.2.2.2.2.2.2.2.2.2.1 r.2.2.2.2.2.2.2.2.2.2.2.2.2.2.1 r.2.2.2.2.2.2.2.2.2.2.2.2.2.2.2.1 r.2.2.2.2.2.2.2.2.2.2.2.2.2.2.2.2.1 r.2.2.2.2.2.2.2.2.2.2.2.2.2.2.2.2.2 fm' _ _ x hlt (fun i hi => ⟨(zfitw_P (h4.2.2 i hi)).1, fun c hc => by have := (zfitw_P (h4.2.2 i hi)).2.2 c hc; omega⟩) ho.1 hfo' ?_ zFU 0 (Nat.zero_le _) (Nat.lt_of_le_of_lt (by omega : x - 0 ≤ 4) (by decide))
    rw [zcn_step]
    exact rp_tcl hq h4 n (x + 1) _ _ _ _ _ _ _ _ _ _ _ _ _ _ _ _ _ _ fm' _ (by omega) (by omega) hfo'
theorem rp_treeCount {l : List (Nat × Nat × Nat)} (hq : zqr mk ma l) (h4 : zfour l) (s1 s2 s3 s4 s5 oc tkm : Int32) (e1 e2 e3 e4 e5 e6 e7 e8 e9 o t : Nat → Int32) (fm fl : Nat → Int32) :
    zwp (fn_Ref_treeCount (nI l.length) s1 s2 s3 s4 s5 oc tkm mk ma e1 e2 e3 e4 e5 e6 e7 e8 e9 o t fm fl) (fun r => r.1 = nI (zcn (zeqP (zPx l)) 4)) := by
  unfold fn_Ref_treeCount
  exact rp_tcl hq h4 zFU 0 s1 s2 s3 s4 s5 oc tkm e1 e2 e3 e4 e5 e6 e7 e8 e9 o t fm fl (by omega) (by decide) (fun y hy => absurd hy (Nat.not_lt_zero _))
end RT
/-! How many outcomes. -/
def zsO (l : List (Nat × Nat × Nat)) (g : Nat → Int32) (rd : Nat) : Int32 := zvst (zNd l rd) g
def zoO (l : List (Nat × Nat × Nat)) (g : Nat → Int32) (rd : Nat) : Int64 := zvou (zNd l rd) (zSu l rd) g
def zeqO (l : List (Nat × Nat × Nat)) (g : Nat → Int32) (x y : Nat) : Bool := decide (zsO l g x = zsO l g y ∧ zoO l g x = zoO l g y)
theorem sp_hasO (a : Int32) (b : Int64) (c : Int32) (d : Int64) : fn_Reading_hasOutcomeOf a b c d = zb2 (decide (a = c ∧ b = d)) := by
  unfold fn_Reading_hasOutcomeOf
  by_cases h1 : a = c
  · rw [if_pos h1]
    by_cases h2 : b = d
    · rw [if_pos ((lg_cmp_eq _ _).mpr h2), decide_eq_true ⟨h1, h2⟩]; rfl
    · rw [if_neg (fun h => h2 ((lg_cmp_eq _ _).mp h)), decide_eq_false (fun h => h2 h.2)]; rfl
  · rw [if_neg h1, decide_eq_false (fun h => h1 h.1)]; rfl
section OC
variable {pc ps tc ts wc ws bc bs : Int32} {pk pd pl pr po pj tk td tl tr to tj wk wd wl wr wo wj bk bd bl br bo bj : Nat → Int32} {l : List (Nat × Nat × Nat)} {g : Nat → Int32}
/-- the four trees of the class -/
def zcl4 (pc ps : Int32) (pk pd pl pr po pj : Nat → Int32) (tc ts : Int32) (tk td tl tr to tj : Nat → Int32) (wc ws : Int32) (wk wd wl wr wo wj : Nat → Int32) (bc bs : Int32) (bk bd bl br bo bj : Nat → Int32) (l : List (Nat × Nat × Nat)) : Prop :=
  zctree pc ps pk pd pl pr po pj (zNd l 0) (zSu l 0) ∧ zctree tc ts tk td tl tr to tj (zNd l 1) (zSu l 1) ∧ zctree wc ws wk wd wl wr wo wj (zNd l 2) (zSu l 2) ∧ zctree bc bs bk bd bl br bo bj (zNd l 3) (zSu l 3)
abbrev zOo : Type := Int32 × Int32 × (Nat → Int64) × (Nat → Int64) × Int32 × Int64 × Int32 × Int64 × Int32 × Int64 × Int32 × Int64
theorem sp_oc0 (mv : Nat → Int32) (k : Int32 → (Nat → Int64) → (Nat → Int64) → Int32 → Int64 → Int32 → Int64 → Int32 → Int64 → Int32 → Int64 → Int32 → Int32 → Option zOo) (Q : zOo → Prop) (es : Int32) (ev ed : Nat → Int64) (p1 : Int32) (p2 : Int64) (t1 : Int32) (t2 : Int64) (w1 : Int32) (w2 : Int64) (b1 : Int32) (b2 : Int64) (x1 : Int32) (h0 : p1 = zsO l g 0 ∧ p2 = zoO l g 0) (hK : zwp (k es ev ed p1 p2 t1 t2 w1 w2 b1 b2 (x1 + zb2 (zfr (zeqO l g) 0 0)) (nI 1)) Q) : ∀ (n j : Nat), j ≤ 0 → 0 - j < n → zwp (fn_Parser_outcomeCount_L33_v11 mv pc ps pk pd pl pr po pj tc ts tk td tl tr to tj wc ws wk wd wl wr wo wj bc bs bk bd bl br bo bj k n es ev ed p1 p2 t1 t2 w1 w2 b1 b2 x1 (nI 0) (zb2 (zfr (zeqO l g) 0 j)) (nI j)) Q
  | 0, _, _, h => absurd h (Nat.not_lt_zero _)
  | n + 1, j, hj, hn => by
    unfold fn_Parser_outcomeCount_L33_v11 fn_Parser_outcomeCount_b61_v12 fn_Parser_outcomeCount_b62_v13 fn_Parser_outcomeCount_b81
    by_cases he : j = 0
    · refine zwp_t (nI_le (by omega) (by omega)) ?_
      rw [he]
      have e2 : nI 0 + 1 = nI 1 := nI_add1 0
      rw [e2]
      cases hz : zfr (zeqO l g) 0 0 with
      | false => rw [hz] at hK; exact zwp_t rfl hK
      | true => rw [hz] at hK; exact zwp_f (by decide) hK
    · omega
theorem sp_oc1 (mv : Nat → Int32) (k : Int32 → (Nat → Int64) → (Nat → Int64) → Int32 → Int64 → Int32 → Int64 → Int32 → Int64 → Int32 → Int64 → Int32 → Int32 → Option zOo) (Q : zOo → Prop) (es : Int32) (ev ed : Nat → Int64) (p1 : Int32) (p2 : Int64) (t1 : Int32) (t2 : Int64) (w1 : Int32) (w2 : Int64) (b1 : Int32) (b2 : Int64) (x1 : Int32) (h0 : p1 = zsO l g 0 ∧ p2 = zoO l g 0) (h1 : t1 = zsO l g 1 ∧ t2 = zoO l g 1) (hK : zwp (k es ev ed p1 p2 t1 t2 w1 w2 b1 b2 (x1 + zb2 (zfr (zeqO l g) 1 1)) (nI 2)) Q) : ∀ (n j : Nat), j ≤ 1 → 1 - j < n → zwp (fn_Parser_outcomeCount_L33 mv pc ps pk pd pl pr po pj tc ts tk td tl tr to tj wc ws wk wd wl wr wo wj bc bs bk bd bl br bo bj k n es ev ed p1 p2 t1 t2 w1 w2 b1 b2 x1 (nI 1) (zb2 (zfr (zeqO l g) 1 j)) (nI j)) Q
  | 0, _, _, h => absurd h (Nat.not_lt_zero _)
  | n + 1, j, hj, hn => by
    unfold fn_Parser_outcomeCount_L33 fn_Parser_outcomeCount_b61 fn_Parser_outcomeCount_b62 fn_Parser_outcomeCount_b81
    by_cases he : j = 1
    · refine zwp_t (nI_le (by omega) (by omega)) ?_
      rw [he]
      have e2 : nI 1 + 1 = nI 2 := nI_add1 1
      rw [e2]
      cases hz : zfr (zeqO l g) 1 1 with
      | false => rw [hz] at hK; exact zwp_t rfl hK
      | true => rw [hz] at hK; exact zwp_f (by decide) hK
    have hlt : j < 1 := by omega
    refine zwp_f (nI_ge hlt (by omega)) ?_
    rw [nI_add1]
    cases hz : zfr (zeqO l g) 1 j with
    | false =>
      have e1 : zfr (zeqO l g) 1 (j + 1) = false := by rw [zfr, hz]; rfl
      have := sp_oc1 mv k Q es ev ed p1 p2 t1 t2 w1 w2 b1 b2 x1 h0 h1 hK n (j + 1) hlt (by omega)
      rw [e1] at this
      exact zwp_t rfl this
    | true =>
      refine zwp_f (by decide) ?_
      have hcmp : ∀ b : Bool, b = zeqO l g 1 j → ∀ v : Int32, v = zb2 (!b) → zwp (fn_Parser_outcomeCount_L33 mv pc ps pk pd pl pr po pj tc ts tk td tl tr to tj wc ws wk wd wl wr wo wj bc bs bk bd bl br bo bj k n es ev ed p1 p2 t1 t2 w1 w2 b1 b2 x1 (nI 1) v (nI (j + 1))) Q := by
        intro b hb' v hv
        have e1 : zfr (zeqO l g) 1 (j + 1) = !b := by rw [zfr, hz, hb']; rfl
        have := sp_oc1 mv k Q es ev ed p1 p2 t1 t2 w1 w2 b1 b2 x1 h0 h1 hK n (j + 1) hlt (by omega)
        rw [e1] at this
        rw [hv]; exact this
      have hj' : j = 0 := by omega
      subst hj'
      refine zwp_f (by decide) (zwp_f (by decide) (zwp_f (by decide) ?_))
      rw [sp_hasO, h1.1, h1.2, h0.1, h0.2]
      cases hd : decide (zsO l g 1 = zsO l g 0 ∧ zoO l g 1 = zoO l g 0) with
      | false => rw [h1.1, h1.2, h0.1, h0.2] at hcmp; exact zwp_t rfl (hcmp false hd.symm 1 rfl)
      | true => rw [h1.1, h1.2, h0.1, h0.2] at hcmp; exact zwp_f (by decide) (hcmp true hd.symm 0 rfl)
theorem sp_oc2 (mv : Nat → Int32) (k : Int32 → (Nat → Int64) → (Nat → Int64) → Int32 → Int64 → Int32 → Int64 → Int32 → Int64 → Int32 → Int64 → Int32 → Int32 → Option zOo) (Q : zOo → Prop) (es : Int32) (ev ed : Nat → Int64) (p1 : Int32) (p2 : Int64) (t1 : Int32) (t2 : Int64) (w1 : Int32) (w2 : Int64) (b1 : Int32) (b2 : Int64) (x1 : Int32) (h0 : p1 = zsO l g 0 ∧ p2 = zoO l g 0) (h1 : t1 = zsO l g 1 ∧ t2 = zoO l g 1) (h2 : w1 = zsO l g 2 ∧ w2 = zoO l g 2) (hK : zwp (k es ev ed p1 p2 t1 t2 w1 w2 b1 b2 (x1 + zb2 (zfr (zeqO l g) 2 2)) (nI 3)) Q) : ∀ (n j : Nat), j ≤ 2 → 2 - j < n → zwp (fn_Parser_outcomeCount_L33_v5 mv pc ps pk pd pl pr po pj tc ts tk td tl tr to tj wc ws wk wd wl wr wo wj bc bs bk bd bl br bo bj k n es ev ed p1 p2 t1 t2 w1 w2 b1 b2 x1 (nI 2) (zb2 (zfr (zeqO l g) 2 j)) (nI j)) Q
  | 0, _, _, h => absurd h (Nat.not_lt_zero _)
  | n + 1, j, hj, hn => by
    unfold fn_Parser_outcomeCount_L33_v5 fn_Parser_outcomeCount_b61_v6 fn_Parser_outcomeCount_b62_v7 fn_Parser_outcomeCount_b81
    by_cases he : j = 2
    · refine zwp_t (nI_le (by omega) (by omega)) ?_
      rw [he]
      have e2 : nI 2 + 1 = nI 3 := nI_add1 2
      rw [e2]
      cases hz : zfr (zeqO l g) 2 2 with
      | false => rw [hz] at hK; exact zwp_t rfl hK
      | true => rw [hz] at hK; exact zwp_f (by decide) hK
    have hlt : j < 2 := by omega
    refine zwp_f (nI_ge hlt (by omega)) ?_
    rw [nI_add1]
    cases hz : zfr (zeqO l g) 2 j with
    | false =>
      have e1 : zfr (zeqO l g) 2 (j + 1) = false := by rw [zfr, hz]; rfl
      have := sp_oc2 mv k Q es ev ed p1 p2 t1 t2 w1 w2 b1 b2 x1 h0 h1 h2 hK n (j + 1) hlt (by omega)
      rw [e1] at this
      exact zwp_t rfl this
    | true =>
      refine zwp_f (by decide) ?_
      have hcmp : ∀ b : Bool, b = zeqO l g 2 j → ∀ v : Int32, v = zb2 (!b) → zwp (fn_Parser_outcomeCount_L33_v5 mv pc ps pk pd pl pr po pj tc ts tk td tl tr to tj wc ws wk wd wl wr wo wj bc bs bk bd bl br bo bj k n es ev ed p1 p2 t1 t2 w1 w2 b1 b2 x1 (nI 2) v (nI (j + 1))) Q := by
        intro b hb' v hv
        have e1 : zfr (zeqO l g) 2 (j + 1) = !b := by rw [zfr, hz, hb']; rfl
        have := sp_oc2 mv k Q es ev ed p1 p2 t1 t2 w1 w2 b1 b2 x1 h0 h1 h2 hK n (j + 1) hlt (by omega)
        rw [e1] at this
        rw [hv]; exact this
      have hj' : j = 0 ∨ j = 1 := by omega
      rcases hj' with rfl | rfl
      · refine zwp_f (by decide) (zwp_f (by decide) (zwp_f (by decide) ?_))
        rw [sp_hasO, h2.1, h2.2, h0.1, h0.2]
        cases hd : decide (zsO l g 2 = zsO l g 0 ∧ zoO l g 2 = zoO l g 0) with
        | false => rw [h2.1, h2.2, h0.1, h0.2] at hcmp; exact zwp_t rfl (hcmp false hd.symm 1 rfl)
        | true => rw [h2.1, h2.2, h0.1, h0.2] at hcmp; exact zwp_f (by decide) (hcmp true hd.symm 0 rfl)
      · refine zwp_t rfl ?_
        rw [sp_hasO, h2.1, h2.2, h1.1, h1.2]
        cases hd : decide (zsO l g 2 = zsO l g 1 ∧ zoO l g 2 = zoO l g 1) with
        | false => rw [h2.1, h2.2, h1.1, h1.2] at hcmp; exact zwp_t rfl (hcmp false hd.symm 1 rfl)
        | true => rw [h2.1, h2.2, h1.1, h1.2] at hcmp; exact zwp_f (by decide) (hcmp true hd.symm 0 rfl)
theorem sp_oc3 (mv : Nat → Int32) (k : Int32 → (Nat → Int64) → (Nat → Int64) → Int32 → Int64 → Int32 → Int64 → Int32 → Int64 → Int32 → Int64 → Int32 → Int32 → Option zOo) (Q : zOo → Prop) (es : Int32) (ev ed : Nat → Int64) (p1 : Int32) (p2 : Int64) (t1 : Int32) (t2 : Int64) (w1 : Int32) (w2 : Int64) (b1 : Int32) (b2 : Int64) (x1 : Int32) (h0 : p1 = zsO l g 0 ∧ p2 = zoO l g 0) (h1 : t1 = zsO l g 1 ∧ t2 = zoO l g 1) (h2 : w1 = zsO l g 2 ∧ w2 = zoO l g 2) (h3 : b1 = zsO l g 3 ∧ b2 = zoO l g 3) (hK : zwp (k es ev ed p1 p2 t1 t2 w1 w2 b1 b2 (x1 + zb2 (zfr (zeqO l g) 3 3)) (nI 4)) Q) : ∀ (n j : Nat), j ≤ 3 → 3 - j < n → zwp (fn_Parser_outcomeCount_L33_v8 mv pc ps pk pd pl pr po pj tc ts tk td tl tr to tj wc ws wk wd wl wr wo wj bc bs bk bd bl br bo bj k n es ev ed p1 p2 t1 t2 w1 w2 b1 b2 x1 (nI 3) (zb2 (zfr (zeqO l g) 3 j)) (nI j)) Q
  | 0, _, _, h => absurd h (Nat.not_lt_zero _)
  | n + 1, j, hj, hn => by
    unfold fn_Parser_outcomeCount_L33_v8 fn_Parser_outcomeCount_b61_v9 fn_Parser_outcomeCount_b62_v10 fn_Parser_outcomeCount_b81
    by_cases he : j = 3
    · refine zwp_t (nI_le (by omega) (by omega)) ?_
      rw [he]
      have e2 : nI 3 + 1 = nI 4 := nI_add1 3
      rw [e2]
      cases hz : zfr (zeqO l g) 3 3 with
      | false => rw [hz] at hK; exact zwp_t rfl hK
      | true => rw [hz] at hK; exact zwp_f (by decide) hK
    have hlt : j < 3 := by omega
    refine zwp_f (nI_ge hlt (by omega)) ?_
    rw [nI_add1]
    cases hz : zfr (zeqO l g) 3 j with
    | false =>
      have e1 : zfr (zeqO l g) 3 (j + 1) = false := by rw [zfr, hz]; rfl
      have := sp_oc3 mv k Q es ev ed p1 p2 t1 t2 w1 w2 b1 b2 x1 h0 h1 h2 h3 hK n (j + 1) hlt (by omega)
      rw [e1] at this
      exact zwp_t rfl this
    | true =>
      refine zwp_f (by decide) ?_
      have hcmp : ∀ b : Bool, b = zeqO l g 3 j → ∀ v : Int32, v = zb2 (!b) → zwp (fn_Parser_outcomeCount_L33_v8 mv pc ps pk pd pl pr po pj tc ts tk td tl tr to tj wc ws wk wd wl wr wo wj bc bs bk bd bl br bo bj k n es ev ed p1 p2 t1 t2 w1 w2 b1 b2 x1 (nI 3) v (nI (j + 1))) Q := by
        intro b hb' v hv
        have e1 : zfr (zeqO l g) 3 (j + 1) = !b := by rw [zfr, hz, hb']; rfl
        have := sp_oc3 mv k Q es ev ed p1 p2 t1 t2 w1 w2 b1 b2 x1 h0 h1 h2 h3 hK n (j + 1) hlt (by omega)
        rw [e1] at this
        rw [hv]; exact this
      have hj' : j = 0 ∨ j = 1 ∨ j = 2 := by omega
      rcases hj' with rfl | rfl | rfl
      · refine zwp_f (by decide) (zwp_f (by decide) (zwp_f (by decide) ?_))
        rw [sp_hasO, h3.1, h3.2, h0.1, h0.2]
        cases hd : decide (zsO l g 3 = zsO l g 0 ∧ zoO l g 3 = zoO l g 0) with
        | false => rw [h3.1, h3.2, h0.1, h0.2] at hcmp; exact zwp_t rfl (hcmp false hd.symm 1 rfl)
        | true => rw [h3.1, h3.2, h0.1, h0.2] at hcmp; exact zwp_f (by decide) (hcmp true hd.symm 0 rfl)
      · refine zwp_t rfl ?_
        rw [sp_hasO, h3.1, h3.2, h1.1, h1.2]
        cases hd : decide (zsO l g 3 = zsO l g 1 ∧ zoO l g 3 = zoO l g 1) with
        | false => rw [h3.1, h3.2, h1.1, h1.2] at hcmp; exact zwp_t rfl (hcmp false hd.symm 1 rfl)
        | true => rw [h3.1, h3.2, h1.1, h1.2] at hcmp; exact zwp_f (by decide) (hcmp true hd.symm 0 rfl)
      · refine zwp_f (by decide) (zwp_t rfl ?_)
        rw [sp_hasO, h3.1, h3.2, h2.1, h2.2]
        cases hd : decide (zsO l g 3 = zsO l g 2 ∧ zoO l g 3 = zoO l g 2) with
        | false => rw [h3.1, h3.2, h2.1, h2.2] at hcmp; exact zwp_t rfl (hcmp false hd.symm 1 rfl)
        | true => rw [h3.1, h3.2, h2.1, h2.2] at hcmp; exact zwp_f (by decide) (hcmp true hd.symm 0 rfl)
theorem sp_ocl (h4 : zfour l) (hc : zcl4 pc ps pk pd pl pr po pj tc ts tk td tl tr to tj wc ws wk wd wl wr wo wj bc bs bk bd bl br bo bj l) (mv : Nat → Int32) (hg : ∀ j, j < 26 → mv j = g j) : ∀ (n x : Nat) (es : Int32) (ev ed : Nat → Int64) (p1 : Int32) (p2 : Int64) (t1 : Int32) (t2 : Int64) (w1 : Int32) (w2 : Int64) (b1 : Int32) (b2 : Int64), x ≤ 4 → 4 - x < n → (0 < x → p1 = zsO l g 0 ∧ p2 = zoO l g 0) ∧ (1 < x → t1 = zsO l g 1 ∧ t2 = zoO l g 1) ∧ (2 < x → w1 = zsO l g 2 ∧ w2 = zoO l g 2) ∧ (3 < x → b1 = zsO l g 3 ∧ b2 = zoO l g 3) → zwp (fn_Parser_outcomeCount_L4 mv pc ps pk pd pl pr po pj tc ts tk td tl tr to tj wc ws wk wd wl wr wo wj bc bs bk bd bl br bo bj n es ev ed p1 p2 t1 t2 w1 w2 b1 b2 (nI (zcn (zeqO l g) x)) (nI x)) (fun r => r.1 = nI (zcn (zeqO l g) 4))
  | 0, _, _, _, _, _, _, _, _, _, _, _, _, _, h, _ => absurd h (Nat.not_lt_zero _)
  | n + 1, x, es, ev, ed, p1, p2, t1, t2, w1, w2, b1, b2, hx, hn, hh => by
    unfold fn_Parser_outcomeCount_L4
    by_cases he : x = 4
    · subst he
      exact zwp_t (by decide) (zwp_some rfl)
    refine zwp_f (show ¬ nI 4 ≤ nI x from nI_ge (by omega) (by omega)) ?_
    obtain ⟨c0, c1, c2, c3⟩ := hc
    obtain ⟨i0, i1, i2, i3⟩ := hh
    have hx' : x = 0 ∨ x = 1 ∨ x = 2 ∨ x = 3 := by omega
    rcases hx' with rfl | rfl | rfl | rfl
    · refine zwp_f (by decide) (zwp_f (by decide) (zwp_f (by decide) ?_))
      refine zwp_seq (sp_judge (g := g) (h4.2.2 0 (by decide)) c0 hg _ _ _ _ _) (fun r hr => ?_)
      obtain ⟨r1, r2, -⟩ := hr
      refine sp_oc0 (l := l) (g := g) mv _ _ r.2.2.1 r.2.2.2.1 r.2.2.2.2 r.1 r.2.1 t1 t2 w1 w2 b1 b2 _ ⟨r1, r2⟩ ?_ zFU 0 (Nat.zero_le _) (by decide)
      rw [zcn_step]
      exact sp_ocl h4 ⟨c0, c1, c2, c3⟩ mv hg n 1 r.2.2.1 r.2.2.2.1 r.2.2.2.2 r.1 r.2.1 t1 t2 w1 w2 b1 b2 (by omega) (by omega) ⟨fun _ => ⟨r1, r2⟩, fun h => absurd h (by omega), fun h => absurd h (by omega), fun h => absurd h (by omega)⟩
    · refine zwp_t rfl ?_
      refine zwp_seq (sp_judge (g := g) (h4.2.2 1 (by decide)) c1 hg _ _ _ _ _) (fun r hr => ?_)
      obtain ⟨r1, r2, -⟩ := hr
      refine sp_oc1 (l := l) (g := g) mv _ _ r.2.2.1 r.2.2.2.1 r.2.2.2.2 p1 p2 r.1 r.2.1 w1 w2 b1 b2 _ (i0 (by decide)) ⟨r1, r2⟩ ?_ zFU 0 (Nat.zero_le _) (by decide)
      rw [zcn_step]
      exact sp_ocl h4 ⟨c0, c1, c2, c3⟩ mv hg n 2 r.2.2.1 r.2.2.2.1 r.2.2.2.2 p1 p2 r.1 r.2.1 w1 w2 b1 b2 (by omega) (by omega) ⟨fun h => i0 (by omega), fun _ => ⟨r1, r2⟩, fun h => absurd h (by omega), fun h => absurd h (by omega)⟩
    · refine zwp_f (by decide) (zwp_t rfl ?_)
      refine zwp_seq (sp_judge (g := g) (h4.2.2 2 (by decide)) c2 hg _ _ _ _ _) (fun r hr => ?_)
      obtain ⟨r1, r2, -⟩ := hr
      refine sp_oc2 (l := l) (g := g) mv _ _ r.2.2.1 r.2.2.2.1 r.2.2.2.2 p1 p2 t1 t2 r.1 r.2.1 b1 b2 _ (i0 (by decide)) (i1 (by decide)) ⟨r1, r2⟩ ?_ zFU 0 (Nat.zero_le _) (by decide)
      rw [zcn_step]
      exact sp_ocl h4 ⟨c0, c1, c2, c3⟩ mv hg n 3 r.2.2.1 r.2.2.2.1 r.2.2.2.2 p1 p2 t1 t2 r.1 r.2.1 b1 b2 (by omega) (by omega) ⟨fun h => i0 (by omega), fun h => i1 (by omega), fun _ => ⟨r1, r2⟩, fun h => absurd h (by omega)⟩
    · refine zwp_f (by decide) (zwp_f (by decide) (zwp_t rfl ?_))
      refine zwp_seq (sp_judge (g := g) (h4.2.2 3 (by decide)) c3 hg _ _ _ _ _) (fun r hr => ?_)
      obtain ⟨r1, r2, -⟩ := hr
      refine sp_oc3 (l := l) (g := g) mv _ _ r.2.2.1 r.2.2.2.1 r.2.2.2.2 p1 p2 t1 t2 w1 w2 r.1 r.2.1 _ (i0 (by decide)) (i1 (by decide)) (i2 (by decide)) ⟨r1, r2⟩ ?_ zFU 0 (Nat.zero_le _) (by decide)
      rw [zcn_step]
      exact sp_ocl h4 ⟨c0, c1, c2, c3⟩ mv hg n 4 r.2.2.1 r.2.2.2.1 r.2.2.2.2 p1 p2 t1 t2 w1 w2 r.1 r.2.1 (by omega) (by omega) ⟨fun h => i0 (by omega), fun h => i1 (by omega), fun h => i2 (by omega), fun _ => ⟨r1, r2⟩⟩
theorem sp_outcomeCount (h4 : zfour l) (hc : zcl4 pc ps pk pd pl pr po pj tc ts tk td tl tr to tj wc ws wk wd wl wr wo wj bc bs bk bd bl br bo bj l) (mv : Nat → Int32) (hg : ∀ j, j < 26 → mv j = g j) (es : Int32) (ev ed : Nat → Int64) (p1 : Int32) (p2 : Int64) (t1 : Int32) (t2 : Int64) (w1 : Int32) (w2 : Int64) (b1 : Int32) (b2 : Int64) :
    zwp (fn_Parser_outcomeCount mv es ev ed p1 p2 pc ps pk pd pl pr po pj t1 t2 tc ts tk td tl tr to tj w1 w2 wc ws wk wd wl wr wo wj b1 b2 bc bs bk bd bl br bo bj) (fun r => r.1 = nI (zcn (zeqO l g) 4)) := by
  unfold fn_Parser_outcomeCount
  exact sp_ocl h4 hc mv hg zFU 0 es ev ed p1 p2 t1 t2 w1 w2 b1 b2 (by omega) (by decide) ⟨fun h => absurd h (by omega), fun h => absurd h (by omega), fun h => absurd h (by omega), fun h => absurd h (by omega)⟩
end OC
section RO
variable {mk ma mv g : Nat → Int32} {tk : Int32} {l : List (Nat × Nat × Nat)}
abbrev zRo : Type := Int32 × Int32 × Int32 × Int32 × Int32 × Int32 × Int32 × Int64 × (Nat → Int32) × (Nat → Int32) × (Nat → Int32) × (Nat → Int32) × (Nat → Int64) × (Nat → Int32) × (Nat → Int32) × (Nat → Int32) × (Nat → Int32) × (Nat → Int32) × (Nat → Int64) × (Nat → Int32) × (Nat → Int64)
theorem rp_oc (k : Int32 → Int32 → Int32 → Int32 → Int32 → Int32 → Int64 → (Nat → Int32) → (Nat → Int32) → (Nat → Int32) → (Nat → Int32) → (Nat → Int64) → (Nat → Int32) → (Nat → Int32) → (Nat → Int32) → (Nat → Int32) → (Nat → Int32) → (Nat → Int64) → (Nat → Int32) → (Nat → Int64) → Int32 → Int32 → Option zRo) (Q : zRo → Prop) (s1 : Int32) (s2 : Int32) (s3 : Int32) (s4 : Int32) (s5 : Int32) (st : Int32) (oc : Int64) (e1 : Nat → Int32) (e2 : Nat → Int32) (e3 : Nat → Int32) (e4 : Nat → Int32) (re : Nat → Int64) (e5 : Nat → Int32) (e6 : Nat → Int32) (e7 : Nat → Int32) (e8 : Nat → Int32) (e9 : Nat → Int32) (row : Nat → Int64) (ss : Nat → Int32) (oo : Nat → Int64) (x1 : Int32) (x : Nat) (hx : x < 4) (hs : ∀ y, y ≤ x → ss y = zsO l g y ∧ oo y = zoO l g y) (hK : zwp (k s1 s2 s3 s4 s5 st oc e1 e2 e3 e4 re e5 e6 e7 e8 e9 row ss oo (x1 + zb2 (zfr (zeqO l g) x x)) (nI (x + 1))) Q) : ∀ (n y : Nat), y ≤ x → x - y < n → zwp (fn_Ref_outcomeCount_L35 tk mk ma mv k n s1 s2 s3 s4 s5 st oc e1 e2 e3 e4 re e5 e6 e7 e8 e9 row ss oo x1 (nI x) (zb2 (zfr (zeqO l g) x y)) (nI y)) Q
  | 0, _, _, h => absurd h (Nat.not_lt_zero _)
  | n + 1, y, hy, hn => by
    unfold fn_Ref_outcomeCount_L35 fn_Ref_outcomeCount_b82 fn_Ref_outcomeCount_b78 fn_Ref_outcomeCount_b83 fn_Ref_outcomeCount_b100
    by_cases he : y = x
    · refine zwp_t (nI_le (by omega) (by omega)) ?_
      rw [nI_add1, he]
      cases hz : zfr (zeqO l g) x x with
      | false => rw [hz] at hK; exact zwp_t rfl hK
      | true => rw [hz] at hK; exact zwp_f (by decide) hK
    · have hlt : y < x := by omega
      refine zwp_f (nI_ge hlt (by omega)) ?_
      have hnx := rp_oc k Q s1 s2 s3 s4 s5 st oc e1 e2 e3 e4 re e5 e6 e7 e8 e9 row ss oo x1 x hx hs hK n (y + 1) hlt (by omega)
      rw [nI_add1]
      cases hz : zfr (zeqO l g) x y with
      | false =>
        have e1 : zfr (zeqO l g) x (y + 1) = false := by rw [zfr, hz]; rfl
        rw [e1] at hnx
        exact zwp_t rfl hnx
      | true =>
        refine zwp_f (by decide) ?_
        have hin := nI_in2 (c := y) (N := 4) (by omega) (by omega)
        have hin2 := nI_in2 (c := x) (N := 4) (by omega) (by omega)
        rw [nI_clamp (by omega), nI_clamp (by omega), (hs y (by omega)).1, (hs x (by omega)).1, (hs y (by omega)).2, (hs x (by omega)).2]
        have e1 : zfr (zeqO l g) x (y + 1) = !(zeqO l g x y) := by rw [zfr, hz]; rfl
        rw [e1] at hnx
        refine zwp_f hin (zwp_f hin2 ?_)
        by_cases h1 : zsO l g y = zsO l g x
        · refine zwp_t h1 (zwp_f hin (zwp_f hin2 ?_))
          by_cases h2 : zoO l g y = zoO l g x
          · have : zeqO l g x y = true := decide_eq_true ⟨h1.symm, h2.symm⟩
            rw [this] at hnx
            exact zwp_t ((lg_cmp_eq _ _).mpr h2) hnx
          · have : zeqO l g x y = false := decide_eq_false (fun h => h2 h.2.symm)
            rw [this] at hnx
            exact zwp_f (fun h => h2 ((lg_cmp_eq _ _).mp h)) hnx
        · have : zeqO l g x y = false := decide_eq_false (fun h => h1 h.1.symm)
          rw [this] at hnx
          exact zwp_f h1 hnx
/-- the reference builds and judges a reading -/
theorem rp_status (hq : zqr mk ma l) (h4 : zfour l) (hg : ∀ j, j < 26 → g j = mv j) (rd : Nat) (hrd : rd < 4) (s1 : Int32) (s2 : Int32) (s3 : Int32) (s4 : Int32) (s5 : Int32) (st : Int32) (oc : Int64) (e1 : Nat → Int32) (e2 : Nat → Int32) (e3 : Nat → Int32) (e4 : Nat → Int32) (re : Nat → Int64) (e5 : Nat → Int32) (e6 : Nat → Int32) (e7 : Nat → Int32) (e8 : Nat → Int32) (e9 : Nat → Int32) (row : Nat → Int64) :
    zwp (fn_Ref_status (nI l.length) s1 s2 s3 s4 s5 st oc mk ma mv e1 e2 e3 e4 re e5 e6 e7 e8 e9 row (nI rd)) (fun q => q.1 = zsO l g rd ∧ q.2.2.2.2.2.2.2.1 = zoO l g rd) := by
  have hi : fn_Ref_isReading (nI rd) = some 1 := by
    have : ∀ r, r < 4 → fn_Ref_isReading (nI r) = some 1 := by decide +kernel
    exact this rd hrd
  have hf := h4.2.2 rd hrd
  unfold fn_Ref_status
  rw [hi, Option.bind_some]
  refine zwp_f (by decide) ?_
  refine zwp_seq (rp_build hq h4.1 rd hrd s1 s2 s3 s4 s5 e1 e2 e3 e4 e5 e6 e7 e8 e9) (fun r hr => ?_)
  exact zwp_ret (e_ref (g := g) hf (zrtr_of hr hf) hg _ _ _ _) (fun b hb => ⟨hb.1, hb.2.1⟩)
theorem rp_ocl (hq : zqr mk ma l) (h4 : zfour l) (hg : ∀ j, j < 26 → g j = mv j) : ∀ (n x : Nat) (s1 : Int32) (s2 : Int32) (s3 : Int32) (s4 : Int32) (s5 : Int32) (st : Int32) (oc : Int64) (e1 : Nat → Int32) (e2 : Nat → Int32) (e3 : Nat → Int32) (e4 : Nat → Int32) (re : Nat → Int64) (e5 : Nat → Int32) (e6 : Nat → Int32) (e7 : Nat → Int32) (e8 : Nat → Int32) (e9 : Nat → Int32) (row : Nat → Int64) (ss : Nat → Int32) (oo : Nat → Int64), x ≤ 4 → 4 - x < n → (∀ y, y < x → ss y = zsO l g y ∧ oo y = zoO l g y) →
    zwp (fn_Ref_outcomeCount_L4 (nI l.length) mk ma mv n s1 s2 s3 s4 s5 st oc e1 e2 e3 e4 re e5 e6 e7 e8 e9 row ss oo (nI (zcn (zeqO l g) x)) (nI x)) (fun r => r.1 = nI (zcn (zeqO l g) 4))
  | 0, _, _, _, _, _, _, _, _, _, _, _, _, _, _, _, _, _, _, _, _, _, _, h, _ => absurd h (Nat.not_lt_zero _)
  | n + 1, x, s1, s2, s3, s4, s5, st, oc, e1, e2, e3, e4, re, e5, e6, e7, e8, e9, row, ss, oo, hx, hn, hs => by
    unfold fn_Ref_outcomeCount_L4
    by_cases he : x = 4
    · subst he
      exact zwp_t (by decide) (zwp_some rfl)
    have hlt : x < 4 := by omega
    refine zwp_f (show ¬ nI 4 ≤ nI x from nI_ge (by omega) (by omega)) ?_
    refine zwp_seq (rp_status hq h4 hg x hlt s1 s2 s3 s4 s5 st oc e1 e2 e3 e4 re e5 e6 e7 e8 e9 row) (fun q hq' => ?_)
    rw [nI_clamp (by omega)]
    refine zwp_f (nI_in2 (by omega) (by omega)) (zwp_f (nI_in2 (by omega) (by omega)) ?_)
    have hs' : ∀ y, y ≤ x → upd ss x q.1 y = zsO l g y ∧ vp_updL oo x q.2.2.2.2.2.2.2.1 y = zoO l g y := by
      intro y hy
      by_cases hyx : y = x
      · subst hyx
        refine ⟨by rw [upd_at]; exact hq'.1, ?_⟩
        show (if y = y then _ else _) = _
        rw [if_pos rfl]; exact hq'.2
      · refine ⟨by rw [upd_ne hyx]; exact (hs y (by omega)).1, ?_⟩
        show (if y = x then _ else _) = _
        rw [if_neg hyx]; exact (hs y (by omega)).2
    refine rp_oc (l := l) (g := g) _ _ q.2.1 q.2.2.1 q.2.2.2.1 q.2.2.2.2.1 q.2.2.2.2.2.1 q.2.2.2.2.2.2.1 q.2.2.2.2.2.2.2.1 q.2.2.2.2.2.2.2.2.1 q.2.2.2.2.2.2.2.2.2.1 q.2.2.2.2.2.2.2.2.2.2.1 q.2.2.2.2.2.2.2.2.2.2.2.1 q.2.2.2.2.2.2.2.2.2.2.2.2.1 q.2.2.2.2.2.2.2.2.2.2.2.2.2.1 q.2.2.2.2.2.2.2.2.2.2.2.2.2.2.1 q.2.2.2.2.2.2.2.2.2.2.2.2.2.2.2.1 q.2.2.2.2.2.2.2.2.2.2.2.2.2.2.2.2.1 q.2.2.2.2.2.2.2.2.2.2.2.2.2.2.2.2.2.1 q.2.2.2.2.2.2.2.2.2.2.2.2.2.2.2.2.2.2 _ _ _ x hlt hs' ?_ zFU 0 (Nat.zero_le _) (Nat.lt_of_le_of_lt (by omega : x - 0 ≤ 4) (by decide))
    rw [zcn_step]
    exact rp_ocl hq h4 hg n (x + 1) _ _ _ _ _ _ _ _ _ _ _ _ _ _ _ _ _ _ _ _ (by omega) (by omega) (fun y hy => hs' y (by omega))
theorem rp_outcomeCount (hq : zqr mk ma l) (h4 : zfour l) (hg : ∀ j, j < 26 → g j = mv j) (s1 : Int32) (s2 : Int32) (s3 : Int32) (s4 : Int32) (s5 : Int32) (st : Int32) (oc : Int64) (e1 : Nat → Int32) (e2 : Nat → Int32) (e3 : Nat → Int32) (e4 : Nat → Int32) (re : Nat → Int64) (e5 : Nat → Int32) (e6 : Nat → Int32) (e7 : Nat → Int32) (e8 : Nat → Int32) (e9 : Nat → Int32) (row : Nat → Int64) (ss : Nat → Int32) (oo : Nat → Int64) :
    zwp (fn_Ref_outcomeCount (nI l.length) s1 s2 s3 s4 s5 st oc mk ma mv e1 e2 e3 e4 re e5 e6 e7 e8 e9 row ss oo) (fun r => r.1 = nI (zcn (zeqO l g) 4)) := by
  unfold fn_Ref_outcomeCount
  exact rp_ocl hq h4 hg zFU 0 s1 s2 s3 s4 s5 st oc e1 e2 e3 e4 re e5 e6 e7 e8 e9 row ss oo (by omega) (by decide) (fun y hy => absurd hy (Nat.not_lt_zero _))
end RO
/-! The next solution. -/
def zvk (k : Nat) : Int32 := nI k - 1000
theorem zvk_tab : ∀ k, k < 2002 → (zvk k).toInt = (k : Int) - 1000 ∧ zvk k + 1 = zvk (k + 1) ∧ zvk k + 1000 = nI k ∧ ¬ nI k = -3 := by decide +kernel
theorem zvk_lt {a b : Nat} (ha : a < 2002) (hb : b < 2002) : zvk a < zvk b ↔ a < b := by
  rw [Int32.lt_iff_toInt_lt, (zvk_tab a ha).1, (zvk_tab b hb).1]; omega
theorem zvk_of {x : Int32} (h : fn_Parser_isVariableValue x ≠ 0) : ∃ k, k ≤ 2000 ∧ x = zvk k := by
  unfold fn_Parser_isVariableValue at h
  have h1 : ¬ x < -1000 := fun hh => by rw [if_pos hh] at h; exact h rfl
  have h2 : ¬ 1000 < x := fun hh => by rw [if_neg h1, if_pos hh] at h; exact h rfl
  rw [Int32.lt_iff_toInt_lt] at h1 h2
  have e1 : (-1000 : Int32).toInt = -1000 := by decide
  have e2 : (1000 : Int32).toInt = 1000 := by decide
  rw [e1] at h1
  rw [e2] at h2
  refine ⟨(x.toInt + 1000).toNat, by omega, ?_⟩
  rw [← Int32.toInt_inj, (zvk_tab _ (by omega)).1]; omega
/-- whether letter x set to zvk k solves -/
def zok (nd : List (Nat × Nat × Nat × Nat)) (S : List (Nat × Nat)) (g : Nat → Int32) (x k : Nat) : Bool := decide (zvst nd (upd g x (zvk k)) = 0 ∧ zvou nd S (upd g x (zvk k)) ≠ 0)
def zsch (ok : Nat → Bool) : Nat → Nat → Int32
  | 0, _ => -3
  | m + 1, k => if ok k = true then nI k else zsch ok m (k + 1)
theorem zsch_const {ok : Nat → Bool} (h : ∀ a b, ok a = ok b) : ∀ (m k : Nat), 1 ≤ m → zsch ok m k = zsch ok 1 k
  | 0, _, h => absurd h (by omega)
  | 1, _, _ => rfl
  | m + 2, k, _ => by
    show (if ok k = true then nI k else zsch ok (m + 1) (k + 1)) = (if ok k = true then nI k else -3)
    by_cases hk : ok k = true
    · rw [if_pos hk, if_pos hk]
    · rw [if_neg hk, if_neg hk, zsch_const h (m + 1) (k + 1) (by omega)]
      show (if ok (k + 1) = true then _ else _) = _
      rw [h (k + 1) k, if_neg hk]; rfl
section EG
variable {tc : Int32} {tk td tl tr : Nat → Int32} {nd : List (Nat × Nat × Nat × Nat)}
theorem ev_node (hc : zct tc tk td tl tr nd) (hok : znok nd) {g g' : Nat → Int32} {i : Nat} {q : Nat × Nat × Nat × Nat} (hi : nd[i]? = some q) (h : q.1 = 2 → g q.2.1 = g' q.2.1) (st : Int32) (v d : Nat → Int64) : fn_Eval_valueOfNode st v d tc tk td tl tr g (nI i) = fn_Eval_valueOfNode st v d tc tk td tl tr g' (nI i) := by
  obtain ⟨c1, c2, c3, c4⟩ := sp_tkind hc hi
  have hzk := hok i q hi
  obtain ⟨-, -, l3, l4⟩ := znk_lt hzk
  unfold fn_Eval_valueOfNode fn_Eval_valueOfNode_b183 fn_Eval_valueOfNode_b148
  simp only [c1, c2, Option.bind_some]
  by_cases h2 : q.1 = 2
  · have hd : q.2.1 < 26 := by unfold znk at hzk; rcases hzk with ⟨h, -⟩ | ⟨-, h⟩ | ⟨h, -⟩ | ⟨h, -⟩ | ⟨h, -⟩ <;> omega
    rw [nI_clamp (by omega : q.2.1 < 2 ^ 31), h h2]
  · have e2 : ¬ nI q.1 = 2 := fun hh => h2 ((nI_inj (b := 2) (by omega) (by omega)).mp hh)
    simp only [if_neg e2]
theorem ev_g (hc : zct tc tk td tl tr nd) (hok : znok nd) {g g' : Nat → Int32} (h : ∀ (i : Nat) (q : Nat × Nat × Nat × Nat), nd[i]? = some q → q.1 = 2 → g q.2.1 = g' q.2.1) : ∀ (n i : Nat) (st : Int32) (v d : Nat → Int64), i ≤ nd.length → fn_Eval_evaluate_L21 tc tk td tl tr g n st v d (nI nd.length) (nI i) = fn_Eval_evaluate_L21 tc tk td tl tr g' n st v d (nI nd.length) (nI i)
  | 0, _, _, _, _, _ => rfl
  | n + 1, i, st, v, d, hi => by
    have hcap := hc.2.1
    unfold fn_Eval_evaluate_L21
    by_cases he : i = nd.length
    · have : nI nd.length ≤ nI i := nI_le (by omega) (by omega)
      rw [if_pos this, if_pos this]
    · have hlt : i < nd.length := by omega
      have : ¬ nI nd.length ≤ nI i := nI_ge hlt (by omega)
      have hq := List.getElem?_eq_getElem hlt
      rw [if_neg this, if_neg this, ev_node hc hok hq (h i _ hq) st v d, nI_add1]
      simp only [ev_g hc hok h n (i + 1) _ _ _ hlt]
theorem zev_g (hf : nd.length ≤ 160) (hok : znok nd) {g g' : Nat → Int32} (h : ∀ (i : Nat) (q : Nat × Nat × Nat × Nat), nd[i]? = some q → q.1 = 2 → g q.2.1 = g' q.2.1) : zevc nd g = zevc nd g' := by
  have e : (if (160 : Int32) < fn_Tree_size (nI nd.length) then 160 else fn_Tree_size (nI nd.length)) = nI nd.length := by
    unfold fn_Tree_size
    exact if_neg (show ¬ nI 160 < nI nd.length by rw [nI_lti (by omega) (by omega)]; omega)
  unfold zevc fn_Eval_evaluate
  rw [e]
  exact ev_g ⟨rfl, hf, zrowN_ok _ _, zrowN_ok _ _, zrowN_ok _ _, zrowN_ok _ _⟩ hok h zFU 0 0 _ _ (Nat.zero_le _)
theorem zok_const {S : List (Nat × Nat)} (hf : nd.length ≤ 160) (hok : znok nd) (g : Nat → Int32) {x : Nat} (hx : zcv x nd = 0) (a b : Nat) : zok nd S g x a = zok nd S g x b := by
  have e := zev_g hf hok (g := upd g x (zvk a)) (g' := upd g x (zvk b)) (fun i q hi h2 => by
    have hm := zsu_mem (fun q : Nat × Nat × Nat × Nat => if q.1 = 2 ∧ q.2.1 = x then 1 else 0) nd q (List.mem_of_getElem? hi)
    have h0 : zsu (fun q : Nat × Nat × Nat × Nat => if q.1 = 2 ∧ q.2.1 = x then 1 else 0) nd = 0 := hx
    rw [h0] at hm
    have : ¬ q.2.1 = x := fun hh => by
      have e1 : (if q.1 = 2 ∧ q.2.1 = x then 1 else 0) = 1 := if_pos ⟨h2, hh⟩
      have hm' : (if q.1 = 2 ∧ q.2.1 = x then 1 else 0) ≤ 0 := hm
      omega
    rw [upd_ne this, upd_ne this])
  have e1 : zvst nd (upd g x (zvk a)) = zvst nd (upd g x (zvk b)) := by unfold zvst; rw [e]
  have e2 : zvvl nd (upd g x (zvk a)) = zvvl nd (upd g x (zvk b)) := by unfold zvvl; rw [e]
  unfold zok zvou
  rw [e1, e2]
end EG
section NS
variable {pc ps tc ts wc ws bc bs : Int32} {pk pd pl pr po pj tk td tl tr to tj wk wd wl wr wo wj bk bd bl br bo bj : Nat → Int32} {l : List (Nat × Nat × Nat)} {g : Nat → Int32}
theorem sp_nsl0 {nd : List (Nat × Nat × Nat × Nat)} {S : List (Nat × Nat)} (hf : zfitw nd S) (hc : zctree pc ps pk pd pl pr po pj nd S) {x h : Nat} (hx : x < 26) (hh : h ≤ 2000) (old : Int32) : ∀ (n m k : Nat) (mv : Nat → Int32) (es : Int32) (ev ed : Nat → Int64) (p1 : Int32) (p2 : Int64) (t1 : Int32) (t2 : Int64) (w1 : Int32) (w2 : Int64) (b1 : Int32) (b2 : Int64), (∀ j, j < 26 → j ≠ x → mv j = g j) → k + m = h + 1 → m < n →
    zwp (fn_Parser_nextSolution_L66_v10 pc ps pk pd pl pr po pj tc ts tk td tl tr to tj wc ws wk wd wl wr wo wj bc bs bk bd bl br bo bj n mv es ev ed p1 p2 t1 t2 w1 w2 b1 b2 (nI x) (zvk h) old (-3) (zvk k)) (fun r => r.1 = zsch (zok nd S g x) m k ∧ ∀ j, j < 26 → r.2.1 j = upd g x old j)
  | 0, _, _, _, _, _, _, _, _, _, _, _, _, _, _, _, _, h => absurd h (Nat.not_lt_zero _)
  | n + 1, m, k, mv, es, ev, ed, p1, p2, t1, t2, w1, w2, b1, b2, hg, hm, hn => by
    have hb := nI_in2 (c := x) (N := 26) (by omega) (by omega)
    have hend : ∀ (mv' : Nat → Int32), (∀ j, j < 26 → j ≠ x → mv' j = g j) → ∀ j, j < 26 → upd mv' x old j = upd g x old j := by
      intro mv' hg' j hj
      by_cases hjx : j = x
      · rw [hjx, upd_at, upd_at]
      · rw [upd_ne hjx, upd_ne hjx]; exact hg' j hj hjx
    unfold fn_Parser_nextSolution_L66_v10 fn_Parser_nextSolution_b127_v11
    rw [nI_clamp (by omega)]
    cases m with
    | zero =>
      refine zwp_t ((zvk_lt (by omega) (by omega)).mpr (by omega)) (zwp_f hb (zwp_some ⟨rfl, hend mv hg⟩))
    | succ m =>
      refine zwp_f (fun hh' => absurd ((zvk_lt (by omega) (by omega)).mp hh') (by omega)) (zwp_t rfl (zwp_f hb ?_))
      obtain ⟨-, z2, z3, z4⟩ := zvk_tab k (by omega)
      rw [z2, z3]
      have hgu : ∀ j, j < 26 → upd mv x (zvk k) j = upd g x (zvk k) j := by
        intro j hj
        by_cases hjx : j = x
        · rw [hjx, upd_at, upd_at]
        · rw [upd_ne hjx, upd_ne hjx]; exact hg j hj hjx
      refine zwp_seq (sp_judge (g := upd g x (zvk k)) hf hc hgu _ _ _ _ _) (fun r hr => ?_)
      obtain ⟨r1, r2, -⟩ := hr
      have hg2 : ∀ j, j < 26 → j ≠ x → upd mv x (zvk k) j = g j := fun j hj hjx => by rw [upd_ne hjx]; exact hg j hj hjx
      have hno : zok nd S g x k = false → zwp (fn_Parser_nextSolution_L66_v10 pc ps pk pd pl pr po pj tc ts tk td tl tr to tj wc ws wk wd wl wr wo wj bc bs bk bd bl br bo bj n (upd mv x (zvk k)) r.2.2.1 r.2.2.2.1 r.2.2.2.2 r.1 r.2.1 t1 t2 w1 w2 b1 b2 (nI x) (zvk h) old (-3) (zvk (k + 1))) (fun r => r.1 = zsch (zok nd S g x) (m + 1) k ∧ ∀ j, j < 26 → r.2.1 j = upd g x old j) := by
        intro hz
        rw [zsch, hz]
        exact sp_nsl0 hf hc hx hh old n m (k + 1) _ _ _ _ _ _ _ _ _ _ _ _ hg2 (by omega) (by omega)
      refine zwp_ite (fun h0 => ?_) (fun h0 => hno (decide_eq_false (fun hz => h0 (r1.trans hz.1))))
      refine zwp_ite (fun h1 => hno (decide_eq_false (fun hz => hz.2 (by rw [← r2]; exact (lg_cmp_eq _ _).mp h1)))) (fun h1 => ?_)
      have hz : zok nd S g x k = true := decide_eq_true ⟨r1.symm.trans h0, fun hz => h1 ((lg_cmp_eq _ _).mpr (r2.trans hz))⟩
      rw [zsch, hz]
      cases n with
      | zero => omega
      | succ n =>
        unfold fn_Parser_nextSolution_L66_v10
        rw [nI_clamp (by omega)]
        exact zwp_ite (fun _ => zwp_f hb (zwp_some ⟨rfl, hend _ hg2⟩)) (fun _ => zwp_f z4 (zwp_f hb (zwp_some ⟨rfl, hend _ hg2⟩)))
theorem sp_nsl1 {nd : List (Nat × Nat × Nat × Nat)} {S : List (Nat × Nat)} (hf : zfitw nd S) (hc : zctree tc ts tk td tl tr to tj nd S) {x h : Nat} (hx : x < 26) (hh : h ≤ 2000) (old : Int32) : ∀ (n m k : Nat) (mv : Nat → Int32) (es : Int32) (ev ed : Nat → Int64) (p1 : Int32) (p2 : Int64) (t1 : Int32) (t2 : Int64) (w1 : Int32) (w2 : Int64) (b1 : Int32) (b2 : Int64), (∀ j, j < 26 → j ≠ x → mv j = g j) → k + m = h + 1 → m < n →
    zwp (fn_Parser_nextSolution_L66 pc ps pk pd pl pr po pj tc ts tk td tl tr to tj wc ws wk wd wl wr wo wj bc bs bk bd bl br bo bj n mv es ev ed p1 p2 t1 t2 w1 w2 b1 b2 (nI x) (zvk h) old (-3) (zvk k)) (fun r => r.1 = zsch (zok nd S g x) m k ∧ ∀ j, j < 26 → r.2.1 j = upd g x old j)
  | 0, _, _, _, _, _, _, _, _, _, _, _, _, _, _, _, _, h => absurd h (Nat.not_lt_zero _)
  | n + 1, m, k, mv, es, ev, ed, p1, p2, t1, t2, w1, w2, b1, b2, hg, hm, hn => by
    have hb := nI_in2 (c := x) (N := 26) (by omega) (by omega)
    have hend : ∀ (mv' : Nat → Int32), (∀ j, j < 26 → j ≠ x → mv' j = g j) → ∀ j, j < 26 → upd mv' x old j = upd g x old j := by
      intro mv' hg' j hj
      by_cases hjx : j = x
      · rw [hjx, upd_at, upd_at]
      · rw [upd_ne hjx, upd_ne hjx]; exact hg' j hj hjx
    unfold fn_Parser_nextSolution_L66 fn_Parser_nextSolution_b127
    rw [nI_clamp (by omega)]
    cases m with
    | zero =>
      refine zwp_t ((zvk_lt (by omega) (by omega)).mpr (by omega)) (zwp_f hb (zwp_some ⟨rfl, hend mv hg⟩))
    | succ m =>
      refine zwp_f (fun hh' => absurd ((zvk_lt (by omega) (by omega)).mp hh') (by omega)) (zwp_t rfl (zwp_f hb ?_))
      obtain ⟨-, z2, z3, z4⟩ := zvk_tab k (by omega)
      rw [z2, z3]
      have hgu : ∀ j, j < 26 → upd mv x (zvk k) j = upd g x (zvk k) j := by
        intro j hj
        by_cases hjx : j = x
        · rw [hjx, upd_at, upd_at]
        · rw [upd_ne hjx, upd_ne hjx]; exact hg j hj hjx
      refine zwp_seq (sp_judge (g := upd g x (zvk k)) hf hc hgu _ _ _ _ _) (fun r hr => ?_)
      obtain ⟨r1, r2, -⟩ := hr
      have hg2 : ∀ j, j < 26 → j ≠ x → upd mv x (zvk k) j = g j := fun j hj hjx => by rw [upd_ne hjx]; exact hg j hj hjx
      have hno : zok nd S g x k = false → zwp (fn_Parser_nextSolution_L66 pc ps pk pd pl pr po pj tc ts tk td tl tr to tj wc ws wk wd wl wr wo wj bc bs bk bd bl br bo bj n (upd mv x (zvk k)) r.2.2.1 r.2.2.2.1 r.2.2.2.2 p1 p2 r.1 r.2.1 w1 w2 b1 b2 (nI x) (zvk h) old (-3) (zvk (k + 1))) (fun r => r.1 = zsch (zok nd S g x) (m + 1) k ∧ ∀ j, j < 26 → r.2.1 j = upd g x old j) := by
        intro hz
        rw [zsch, hz]
        exact sp_nsl1 hf hc hx hh old n m (k + 1) _ _ _ _ _ _ _ _ _ _ _ _ hg2 (by omega) (by omega)
      refine zwp_ite (fun h0 => ?_) (fun h0 => hno (decide_eq_false (fun hz => h0 (r1.trans hz.1))))
      refine zwp_ite (fun h1 => hno (decide_eq_false (fun hz => hz.2 (by rw [← r2]; exact (lg_cmp_eq _ _).mp h1)))) (fun h1 => ?_)
      have hz : zok nd S g x k = true := decide_eq_true ⟨r1.symm.trans h0, fun hz => h1 ((lg_cmp_eq _ _).mpr (r2.trans hz))⟩
      rw [zsch, hz]
      cases n with
      | zero => omega
      | succ n =>
        unfold fn_Parser_nextSolution_L66
        rw [nI_clamp (by omega)]
        exact zwp_ite (fun _ => zwp_f hb (zwp_some ⟨rfl, hend _ hg2⟩)) (fun _ => zwp_f z4 (zwp_f hb (zwp_some ⟨rfl, hend _ hg2⟩)))
theorem sp_nsl2 {nd : List (Nat × Nat × Nat × Nat)} {S : List (Nat × Nat)} (hf : zfitw nd S) (hc : zctree wc ws wk wd wl wr wo wj nd S) {x h : Nat} (hx : x < 26) (hh : h ≤ 2000) (old : Int32) : ∀ (n m k : Nat) (mv : Nat → Int32) (es : Int32) (ev ed : Nat → Int64) (p1 : Int32) (p2 : Int64) (t1 : Int32) (t2 : Int64) (w1 : Int32) (w2 : Int64) (b1 : Int32) (b2 : Int64), (∀ j, j < 26 → j ≠ x → mv j = g j) → k + m = h + 1 → m < n →
    zwp (fn_Parser_nextSolution_L66_v4 pc ps pk pd pl pr po pj tc ts tk td tl tr to tj wc ws wk wd wl wr wo wj bc bs bk bd bl br bo bj n mv es ev ed p1 p2 t1 t2 w1 w2 b1 b2 (nI x) (zvk h) old (-3) (zvk k)) (fun r => r.1 = zsch (zok nd S g x) m k ∧ ∀ j, j < 26 → r.2.1 j = upd g x old j)
  | 0, _, _, _, _, _, _, _, _, _, _, _, _, _, _, _, _, h => absurd h (Nat.not_lt_zero _)
  | n + 1, m, k, mv, es, ev, ed, p1, p2, t1, t2, w1, w2, b1, b2, hg, hm, hn => by
    have hb := nI_in2 (c := x) (N := 26) (by omega) (by omega)
    have hend : ∀ (mv' : Nat → Int32), (∀ j, j < 26 → j ≠ x → mv' j = g j) → ∀ j, j < 26 → upd mv' x old j = upd g x old j := by
      intro mv' hg' j hj
      by_cases hjx : j = x
      · rw [hjx, upd_at, upd_at]
      · rw [upd_ne hjx, upd_ne hjx]; exact hg' j hj hjx
    unfold fn_Parser_nextSolution_L66_v4 fn_Parser_nextSolution_b127_v5
    rw [nI_clamp (by omega)]
    cases m with
    | zero =>
      refine zwp_t ((zvk_lt (by omega) (by omega)).mpr (by omega)) (zwp_f hb (zwp_some ⟨rfl, hend mv hg⟩))
    | succ m =>
      refine zwp_f (fun hh' => absurd ((zvk_lt (by omega) (by omega)).mp hh') (by omega)) (zwp_t rfl (zwp_f hb ?_))
      obtain ⟨-, z2, z3, z4⟩ := zvk_tab k (by omega)
      rw [z2, z3]
      have hgu : ∀ j, j < 26 → upd mv x (zvk k) j = upd g x (zvk k) j := by
        intro j hj
        by_cases hjx : j = x
        · rw [hjx, upd_at, upd_at]
        · rw [upd_ne hjx, upd_ne hjx]; exact hg j hj hjx
      refine zwp_seq (sp_judge (g := upd g x (zvk k)) hf hc hgu _ _ _ _ _) (fun r hr => ?_)
      obtain ⟨r1, r2, -⟩ := hr
      have hg2 : ∀ j, j < 26 → j ≠ x → upd mv x (zvk k) j = g j := fun j hj hjx => by rw [upd_ne hjx]; exact hg j hj hjx
      have hno : zok nd S g x k = false → zwp (fn_Parser_nextSolution_L66_v4 pc ps pk pd pl pr po pj tc ts tk td tl tr to tj wc ws wk wd wl wr wo wj bc bs bk bd bl br bo bj n (upd mv x (zvk k)) r.2.2.1 r.2.2.2.1 r.2.2.2.2 p1 p2 t1 t2 r.1 r.2.1 b1 b2 (nI x) (zvk h) old (-3) (zvk (k + 1))) (fun r => r.1 = zsch (zok nd S g x) (m + 1) k ∧ ∀ j, j < 26 → r.2.1 j = upd g x old j) := by
        intro hz
        rw [zsch, hz]
        exact sp_nsl2 hf hc hx hh old n m (k + 1) _ _ _ _ _ _ _ _ _ _ _ _ hg2 (by omega) (by omega)
      refine zwp_ite (fun h0 => ?_) (fun h0 => hno (decide_eq_false (fun hz => h0 (r1.trans hz.1))))
      refine zwp_ite (fun h1 => hno (decide_eq_false (fun hz => hz.2 (by rw [← r2]; exact (lg_cmp_eq _ _).mp h1)))) (fun h1 => ?_)
      have hz : zok nd S g x k = true := decide_eq_true ⟨r1.symm.trans h0, fun hz => h1 ((lg_cmp_eq _ _).mpr (r2.trans hz))⟩
      rw [zsch, hz]
      cases n with
      | zero => omega
      | succ n =>
        unfold fn_Parser_nextSolution_L66_v4
        rw [nI_clamp (by omega)]
        exact zwp_ite (fun _ => zwp_f hb (zwp_some ⟨rfl, hend _ hg2⟩)) (fun _ => zwp_f z4 (zwp_f hb (zwp_some ⟨rfl, hend _ hg2⟩)))
theorem sp_nsl3 {nd : List (Nat × Nat × Nat × Nat)} {S : List (Nat × Nat)} (hf : zfitw nd S) (hc : zctree bc bs bk bd bl br bo bj nd S) {x h : Nat} (hx : x < 26) (hh : h ≤ 2000) (old : Int32) : ∀ (n m k : Nat) (mv : Nat → Int32) (es : Int32) (ev ed : Nat → Int64) (p1 : Int32) (p2 : Int64) (t1 : Int32) (t2 : Int64) (w1 : Int32) (w2 : Int64) (b1 : Int32) (b2 : Int64), (∀ j, j < 26 → j ≠ x → mv j = g j) → k + m = h + 1 → m < n →
    zwp (fn_Parser_nextSolution_L66_v7 pc ps pk pd pl pr po pj tc ts tk td tl tr to tj wc ws wk wd wl wr wo wj bc bs bk bd bl br bo bj n mv es ev ed p1 p2 t1 t2 w1 w2 b1 b2 (nI x) (zvk h) old (-3) (zvk k)) (fun r => r.1 = zsch (zok nd S g x) m k ∧ ∀ j, j < 26 → r.2.1 j = upd g x old j)
  | 0, _, _, _, _, _, _, _, _, _, _, _, _, _, _, _, _, h => absurd h (Nat.not_lt_zero _)
  | n + 1, m, k, mv, es, ev, ed, p1, p2, t1, t2, w1, w2, b1, b2, hg, hm, hn => by
    have hb := nI_in2 (c := x) (N := 26) (by omega) (by omega)
    have hend : ∀ (mv' : Nat → Int32), (∀ j, j < 26 → j ≠ x → mv' j = g j) → ∀ j, j < 26 → upd mv' x old j = upd g x old j := by
      intro mv' hg' j hj
      by_cases hjx : j = x
      · rw [hjx, upd_at, upd_at]
      · rw [upd_ne hjx, upd_ne hjx]; exact hg' j hj hjx
    unfold fn_Parser_nextSolution_L66_v7 fn_Parser_nextSolution_b127_v8
    rw [nI_clamp (by omega)]
    cases m with
    | zero =>
      refine zwp_t ((zvk_lt (by omega) (by omega)).mpr (by omega)) (zwp_f hb (zwp_some ⟨rfl, hend mv hg⟩))
    | succ m =>
      refine zwp_f (fun hh' => absurd ((zvk_lt (by omega) (by omega)).mp hh') (by omega)) (zwp_t rfl (zwp_f hb ?_))
      obtain ⟨-, z2, z3, z4⟩ := zvk_tab k (by omega)
      rw [z2, z3]
      have hgu : ∀ j, j < 26 → upd mv x (zvk k) j = upd g x (zvk k) j := by
        intro j hj
        by_cases hjx : j = x
        · rw [hjx, upd_at, upd_at]
        · rw [upd_ne hjx, upd_ne hjx]; exact hg j hj hjx
      refine zwp_seq (sp_judge (g := upd g x (zvk k)) hf hc hgu _ _ _ _ _) (fun r hr => ?_)
      obtain ⟨r1, r2, -⟩ := hr
      have hg2 : ∀ j, j < 26 → j ≠ x → upd mv x (zvk k) j = g j := fun j hj hjx => by rw [upd_ne hjx]; exact hg j hj hjx
      have hno : zok nd S g x k = false → zwp (fn_Parser_nextSolution_L66_v7 pc ps pk pd pl pr po pj tc ts tk td tl tr to tj wc ws wk wd wl wr wo wj bc bs bk bd bl br bo bj n (upd mv x (zvk k)) r.2.2.1 r.2.2.2.1 r.2.2.2.2 p1 p2 t1 t2 w1 w2 r.1 r.2.1 (nI x) (zvk h) old (-3) (zvk (k + 1))) (fun r => r.1 = zsch (zok nd S g x) (m + 1) k ∧ ∀ j, j < 26 → r.2.1 j = upd g x old j) := by
        intro hz
        rw [zsch, hz]
        exact sp_nsl3 hf hc hx hh old n m (k + 1) _ _ _ _ _ _ _ _ _ _ _ _ hg2 (by omega) (by omega)
      refine zwp_ite (fun h0 => ?_) (fun h0 => hno (decide_eq_false (fun hz => h0 (r1.trans hz.1))))
      refine zwp_ite (fun h1 => hno (decide_eq_false (fun hz => hz.2 (by rw [← r2]; exact (lg_cmp_eq _ _).mp h1)))) (fun h1 => ?_)
      have hz : zok nd S g x k = true := decide_eq_true ⟨r1.symm.trans h0, fun hz => h1 ((lg_cmp_eq _ _).mpr (r2.trans hz))⟩
      rw [zsch, hz]
      cases n with
      | zero => omega
      | succ n =>
        unfold fn_Parser_nextSolution_L66_v7
        rw [nI_clamp (by omega)]
        exact zwp_ite (fun _ => zwp_f hb (zwp_some ⟨rfl, hend _ hg2⟩)) (fun _ => zwp_f z4 (zwp_f hb (zwp_some ⟨rfl, hend _ hg2⟩)))
/-- the answer of nextSolution -/
def zns (l : List (Nat × Nat × Nat)) (g : Nat → Int32) (rd x k : Nat) : Int32 := zsch (zok (zNd l rd) (zSu l rd) g x) (2001 - k) k
theorem sp_nextS (h4 : zfour l) (hc : zcl4 pc ps pk pd pl pr po pj tc ts tk td tl tr to tj wc ws wk wd wl wr wo wj bc bs bk bd bl br bo bj l) (mv : Nat → Int32) (hg : ∀ j, j < 26 → mv j = g j) {rd x k : Nat} (hrd : rd < 4) (hx : x < 26) (hk : k ≤ 2000) (es : Int32) (ev ed : Nat → Int64) (p1 : Int32) (p2 : Int64) (t1 : Int32) (t2 : Int64) (w1 : Int32) (w2 : Int64) (b1 : Int32) (b2 : Int64) :
    zwp (fn_Parser_nextSolution mv es ev ed p1 p2 pc ps pk pd pl pr po pj t1 t2 tc ts tk td tl tr to tj w1 w2 wc ws wk wd wl wr wo wj b1 b2 bc bs bk bd bl br bo bj (nI rd) (nI x) (zvk k)) (fun r => r.1 = zns l g rd x k ∧ ∀ j, j < 26 → r.2.1 j = g j) := by
  obtain ⟨c0, c1, c2, c3⟩ := hc
  have hir : ∀ r, r < 4 → fn_Parser_isReading (nI r) = 1 := by decide +kernel
  have hil : ∀ r, r < 26 → fn_Parser_isLetterIndex (nI r) = 1 := by decide +kernel
  have hiv : ∀ r, r < 2001 → fn_Parser_isVariableValue (zvk r) = 1 := by decide +kernel
  have hb := nI_in2 (c := x) (N := 26) (by omega) (by omega)
  have hold : ∀ (r : Nat → Int32), (∀ j, j < 26 → r j = upd g x (mv x) j) → ∀ j, j < 26 → r j = g j := by
    intro r h j hj
    rw [h j hj]
    by_cases hjx : j = x
    · rw [hjx, upd_at]; exact hg x hx
    · rw [upd_ne hjx]
  have hlim : ∀ (nd : List (Nat × Nat × Nat × Nat)) (S : List (Nat × Nat)), zfitw nd S → zcv x nd = 0 → zsch (zok nd S g x) 1 k = zsch (zok nd S g x) (2001 - k) k := fun nd S hf h0 => (zsch_const (fun a b => zok_const hf.2.1 hf.1 g h0 a b) (2001 - k) k (by omega)).symm
  have hcv : ∀ (nd : List (Nat × Nat × Nat × Nat)), nd.length ≤ 160 → zcv x nd < 2 ^ 31 := by
    intro nd hn
    have : ∀ nd : List (Nat × Nat × Nat × Nat), zcv x nd ≤ nd.length := by
      intro nd
      induction nd with
      | nil => exact Nat.le_refl _
      | cons q nd ih =>
        show (if q.1 = 2 ∧ q.2.1 = x then 1 else 0) + zcv x nd ≤ nd.length + 1
        split <;> omega
    have := this nd
    omega
  unfold fn_Parser_nextSolution
  rw [hir rd hrd, hil x hx, hiv k (by omega)]
  refine zwp_f (by decide) (zwp_f (by decide) (zwp_f (by decide) ?_))
  have e1000 : (1000 : Int32) = zvk 2000 := by decide
  have hr' : rd = 0 ∨ rd = 1 ∨ rd = 2 ∨ rd = 3 := by omega
  rcases hr' with rfl | rfl | rfl | rfl
  · refine zwp_f (by decide) (zwp_f (by decide) (zwp_f (by decide) ?_))
    have hf := h4.2.2 0 (by decide)
    rw [sp_cv c0.1 hf.1 x hx, Option.bind_some]
    unfold fn_Parser_nextSolution_b49_v9
    rw [nI_clamp (by omega)]
    refine zwp_ite (fun h0 => zwp_f hb ?_) (fun _ => zwp_f hb ?_)
    · have hz : zcv x (zNd l 0) = 0 := (nI_inj (b := 0) (hcv _ hf.2.1) (by omega)).mp h0
      refine zwp_mono (sp_nsl0 (g := g) hf c0 hx hk (mv x) zFU 1 k mv es ev ed p1 p2 t1 t2 w1 w2 b1 b2 (fun j hj _ => hg j hj) (by omega) (by decide)) (fun r hr => ⟨?_, hold _ hr.2⟩)
      rw [hr.1]; exact hlim _ _ hf hz
    · rw [e1000]
      exact zwp_mono (sp_nsl0 (g := g) hf c0 hx (Nat.le_refl 2000) (mv x) zFU (2001 - k) k mv es ev ed p1 p2 t1 t2 w1 w2 b1 b2 (fun j hj _ => hg j hj) (by omega) (Nat.lt_of_le_of_lt (Nat.sub_le _ _) (by decide))) (fun r hr => ⟨hr.1, hold _ hr.2⟩)
  · refine zwp_t rfl ?_
    have hf := h4.2.2 1 (by decide)
    rw [sp_cv c1.1 hf.1 x hx, Option.bind_some]
    unfold fn_Parser_nextSolution_b49
    rw [nI_clamp (by omega)]
    refine zwp_ite (fun h0 => zwp_f hb ?_) (fun _ => zwp_f hb ?_)
    · have hz : zcv x (zNd l 1) = 0 := (nI_inj (b := 0) (hcv _ hf.2.1) (by omega)).mp h0
      refine zwp_mono (sp_nsl1 (g := g) hf c1 hx hk (mv x) zFU 1 k mv es ev ed p1 p2 t1 t2 w1 w2 b1 b2 (fun j hj _ => hg j hj) (by omega) (by decide)) (fun r hr => ⟨?_, hold _ hr.2⟩)
      rw [hr.1]; exact hlim _ _ hf hz
    · rw [e1000]
      exact zwp_mono (sp_nsl1 (g := g) hf c1 hx (Nat.le_refl 2000) (mv x) zFU (2001 - k) k mv es ev ed p1 p2 t1 t2 w1 w2 b1 b2 (fun j hj _ => hg j hj) (by omega) (Nat.lt_of_le_of_lt (Nat.sub_le _ _) (by decide))) (fun r hr => ⟨hr.1, hold _ hr.2⟩)
  · refine zwp_f (by decide) (zwp_t rfl ?_)
    have hf := h4.2.2 2 (by decide)
    rw [sp_cv c2.1 hf.1 x hx, Option.bind_some]
    unfold fn_Parser_nextSolution_b49_v3
    rw [nI_clamp (by omega)]
    refine zwp_ite (fun h0 => zwp_f hb ?_) (fun _ => zwp_f hb ?_)
    · have hz : zcv x (zNd l 2) = 0 := (nI_inj (b := 0) (hcv _ hf.2.1) (by omega)).mp h0
      refine zwp_mono (sp_nsl2 (g := g) hf c2 hx hk (mv x) zFU 1 k mv es ev ed p1 p2 t1 t2 w1 w2 b1 b2 (fun j hj _ => hg j hj) (by omega) (by decide)) (fun r hr => ⟨?_, hold _ hr.2⟩)
      rw [hr.1]; exact hlim _ _ hf hz
    · rw [e1000]
      exact zwp_mono (sp_nsl2 (g := g) hf c2 hx (Nat.le_refl 2000) (mv x) zFU (2001 - k) k mv es ev ed p1 p2 t1 t2 w1 w2 b1 b2 (fun j hj _ => hg j hj) (by omega) (Nat.lt_of_le_of_lt (Nat.sub_le _ _) (by decide))) (fun r hr => ⟨hr.1, hold _ hr.2⟩)
  · refine zwp_f (by decide) (zwp_f (by decide) (zwp_t rfl ?_))
    have hf := h4.2.2 3 (by decide)
    rw [sp_cv c3.1 hf.1 x hx, Option.bind_some]
    unfold fn_Parser_nextSolution_b49_v6
    rw [nI_clamp (by omega)]
    refine zwp_ite (fun h0 => zwp_f hb ?_) (fun _ => zwp_f hb ?_)
    · have hz : zcv x (zNd l 3) = 0 := (nI_inj (b := 0) (hcv _ hf.2.1) (by omega)).mp h0
      refine zwp_mono (sp_nsl3 (g := g) hf c3 hx hk (mv x) zFU 1 k mv es ev ed p1 p2 t1 t2 w1 w2 b1 b2 (fun j hj _ => hg j hj) (by omega) (by decide)) (fun r hr => ⟨?_, hold _ hr.2⟩)
      rw [hr.1]; exact hlim _ _ hf hz
    · rw [e1000]
      exact zwp_mono (sp_nsl3 (g := g) hf c3 hx (Nat.le_refl 2000) (mv x) zFU (2001 - k) k mv es ev ed p1 p2 t1 t2 w1 w2 b1 b2 (fun j hj _ => hg j hj) (by omega) (Nat.lt_of_le_of_lt (Nat.sub_le _ _) (by decide))) (fun r hr => ⟨hr.1, hold _ hr.2⟩)
end NS
section RN
variable {mk ma g : Nat → Int32} {tk : Int32} {l : List (Nat × Nat × Nat)} {s1 s2 s3 s4 s5 : Int32} {e1 e2 e3 e4 e5 e6 e7 e8 e9 : Nat → Int32}
theorem rp_nsl {nd : List (Nat × Nat × Nat × Nat)} {SS : List (Nat × Nat)} (hf : zfitw nd SS) (hr : zrtr s1 s3 e1 e2 e3 e4 e5 e6 nd SS) {x : Nat} (hx : x < 26) (old : Int32) : ∀ (n m k : Nat) (mv : Nat → Int32) (st : Int32) (oc : Int64) (re row : Nat → Int64), (∀ j, j < 26 → j ≠ x → mv j = g j) → k + m = 2001 → m < n →
    zwp (fn_Ref_nextSolution_L55 tk mk ma n s1 s2 s3 s4 s5 st oc mv e1 e2 e3 e4 re e5 e6 e7 e8 e9 row (nI x) old (-3) (zvk k)) (fun r => r.1 = zsch (zok nd SS g x) m k ∧ ∀ j, j < 26 → r.2.2.2.2.2.2.2.2.1 j = upd g x old j)
  | 0, _, _, _, _, _, _, _, _, _, h => absurd h (Nat.not_lt_zero _)
  | n + 1, m, k, mv, st, oc, re, row, hg, hm, hn => by
    have hb := nI_in2 (c := x) (N := 26) (by omega) (by omega)
    have e1000 : (1000 : Int32) = zvk 2000 := by decide
    have hend : ∀ (mv' : Nat → Int32), (∀ j, j < 26 → j ≠ x → mv' j = g j) → ∀ j, j < 26 → upd mv' x old j = upd g x old j := by
      intro mv' hg' j hj
      by_cases hjx : j = x
      · rw [hjx, upd_at, upd_at]
      · rw [upd_ne hjx, upd_ne hjx]; exact hg' j hj hjx
    unfold fn_Ref_nextSolution_L55 fn_Ref_nextSolution_b107 fn_Ref_nextSolution_b109
    rw [nI_clamp (by omega)]
    cases m with
    | zero =>
      refine zwp_t (by rw [e1000]; exact (zvk_lt (by omega) (by omega)).mpr (by omega)) (zwp_f hb (zwp_some ⟨rfl, hend mv hg⟩))
    | succ m =>
      refine zwp_f (fun hh' => absurd ((zvk_lt (by omega) (by omega)).mp (e1000 ▸ hh')) (by omega)) (zwp_t rfl (zwp_f hb ?_))
      obtain ⟨-, z2, z3, z4⟩ := zvk_tab k (by omega)
      rw [z2, z3]
      have hgu : ∀ j, j < 26 → upd g x (zvk k) j = upd mv x (zvk k) j := by
        intro j hj
        by_cases hjx : j = x
        · rw [hjx, upd_at, upd_at]
        · rw [upd_ne hjx, upd_ne hjx]; exact (hg j hj hjx).symm
      refine zwp_seq (e_ref (g := upd g x (zvk k)) hf hr hgu _ _ _ _) (fun r hr' => ?_)
      obtain ⟨r1, r2, -⟩ := hr'
      have hg2 : ∀ j, j < 26 → j ≠ x → upd mv x (zvk k) j = g j := fun j hj hjx => by rw [upd_ne hjx]; exact hg j hj hjx
      have hno : zok nd SS g x k = false → zwp (fn_Ref_nextSolution_L55 tk mk ma n s1 s2 s3 s4 s5 r.1 r.2.1 (upd mv x (zvk k)) e1 e2 e3 e4 r.2.2.1 e5 e6 e7 e8 e9 r.2.2.2 (nI x) old (-3) (zvk (k + 1))) (fun r => r.1 = zsch (zok nd SS g x) (m + 1) k ∧ ∀ j, j < 26 → r.2.2.2.2.2.2.2.2.1 j = upd g x old j) := by
        intro hz
        rw [zsch, hz]
        exact rp_nsl hf hr hx old n m (k + 1) _ _ _ _ _ hg2 (by omega) (by omega)
      refine zwp_ite (fun h0 => ?_) (fun h0 => hno (decide_eq_false (fun hz => h0 (r1.trans hz.1))))
      refine zwp_ite (fun h1 => hno (decide_eq_false (fun hz => hz.2 (by rw [← r2]; exact (lg_cmp_eq _ _).mp h1)))) (fun h1 => ?_)
      have hz : zok nd SS g x k = true := decide_eq_true ⟨r1.symm.trans h0, fun hz => h1 ((lg_cmp_eq _ _).mpr (r2.trans hz))⟩
      rw [zsch, hz]
      cases n with
      | zero => omega
      | succ n =>
        unfold fn_Ref_nextSolution_L55
        rw [nI_clamp (by omega)]
        exact zwp_ite (fun _ => zwp_f hb (zwp_some ⟨rfl, hend _ hg2⟩)) (fun _ => zwp_f z4 (zwp_f hb (zwp_some ⟨rfl, hend _ hg2⟩)))
theorem rp_nextS (hq : zqr mk ma l) (h4 : zfour l) (mv : Nat → Int32) (hg : ∀ j, j < 26 → mv j = g j) {rd x k : Nat} (hrd : rd < 4) (hx : x < 26) (hk : k ≤ 2000) (st : Int32) (oc : Int64) (re row : Nat → Int64) :
    zwp (fn_Ref_nextSolution (nI l.length) s1 s2 s3 s4 s5 st oc mk ma mv e1 e2 e3 e4 re e5 e6 e7 e8 e9 row (nI rd) (nI x) (zvk k)) (fun r => r.1 = zns l g rd x k ∧ ∀ j, j < 26 → r.2.2.2.2.2.2.2.2.1 j = g j) := by
  have hir : ∀ r, r < 4 → fn_Ref_isReading (nI r) = some 1 := by decide +kernel
  have hil : ∀ r, r < 26 → fn_Ref_in (nI r).toInt64 0 25 = 1 := by decide +kernel
  have hiv : ∀ r, r < 2001 → fn_Ref_in (zvk r).toInt64 (-1000) 1000 = 1 := by decide +kernel
  have hb := nI_in2 (c := x) (N := 26) (by omega) (by omega)
  have hf := h4.2.2 rd hrd
  unfold fn_Ref_nextSolution
  rw [hir rd hrd, Option.bind_some, hil x hx, hiv k (by omega), nI_clamp (by omega)]
  refine zwp_f (by decide) (zwp_f (by decide) (zwp_f (by decide) (zwp_f hb ?_)))
  refine zwp_seq (rp_build hq h4.1 rd hrd s1 s2 s3 s4 s5 e1 e2 e3 e4 e5 e6 e7 e8 e9) (fun r hr => ?_)
  have hr2 : zrtree r (zNd l rd) (zSu l rd) := hr
  refine zwp_mono (rp_nsl (g := g) hf (zrtr_of hr2 hf) hx (mv x) zFU (2001 - k) k mv st oc re row (fun j hj _ => hg j hj) (by omega) (Nat.lt_of_le_of_lt (Nat.sub_le _ _) (by decide))) (fun u hu => ⟨hu.1, fun j hj => ?_⟩)
  rw [hu.2 j hj]
  by_cases hjx : j = x
  · rw [hjx, upd_at]; exact hg x hx
  · rw [upd_ne hjx]
end RN
