/-! Numbers out of the script: what a rest or a shift may be. -/
theorem jz_nn (x : Int32) : 0 ≤ x.toInt ↔ x.toBitVec.msb = false := by
  rw [show x.toInt = x.toBitVec.toInt from rfl, BitVec.toInt_eq_msb_cond]
  have := x.toBitVec.isLt
  cases h : x.toBitVec.msb with
  | false => simp
  | true => simp; omega
theorem jz_and_nn {x m : Int32} (hm : 0 ≤ m.toInt) : 0 ≤ (x &&& m).toInt := by
  rw [jz_nn] at *
  rw [Int32.toBitVec_and, BitVec.msb_and, hm, Bool.and_false]
theorem jz_shr_nn {x k : Int32} (h : 0 ≤ x.toInt) : 0 ≤ (x >>> k).toInt := by
  rw [jz_nn] at *
  rw [Int32.toBitVec_shiftRight, BitVec.sshiftRight_eq', BitVec.msb_sshiftRight]
  exact h
theorem jz_div {n m : Nat} (hn : n < 2 ^ 31) (hm2 : m < 2 ^ 31) : nI n / nI m = nI (n / m) := by
  have hd : n / m < 2 ^ 31 := Nat.lt_of_le_of_lt (Nat.div_le_self n m) hn
  rw [← Int32.toInt_inj, Int32.toInt_div, nI_toInt hn, nI_toInt hm2, nI_toInt hd, Int.tdiv_eq_ediv_of_nonneg (by omega), ← Int.natCast_ediv]
  generalize n / m = d at hd
  simp only [Int.bmod]
  split <;> omega
theorem jz_rem {x m : Int32} {k : Nat} (h : 0 ≤ x.toInt) (hm : m = nI k) (hk : 0 < k) (hk2 : k < 2 ^ 31) : ∃ r, r < k ∧ x - x / m * m = nI r := by
  have hlt := Int32.toInt_lt x
  have e : x = nI x.toInt.toNat := by
    rw [← Int32.toInt_inj, nI_toInt (by omega)]; omega
  have h2 : x.toInt.toNat < 2 ^ 31 := by omega
  clear hlt
  generalize x.toInt.toNat = n at *
  subst hm e
  refine ⟨n % k, Nat.mod_lt _ hk, ?_⟩
  rw [jz_div h2 hk2, nI_mulz, nI_sub (Nat.div_mul_le_self n k)]
  congr 1
  have := Nat.div_add_mod n k
  rw [Nat.mul_comm] at this
  omega
/-- a cell of the script, or what stands for it behind its end -/
theorem jz_cell {L : Nat} {xs : Nat → Int32} (hL : L ≤ 260) {j : Nat} (hj : j < 1000) : ∃ c : Int32, 0 ≤ c.toInt ∧ fn_Law_cell L xs (nI j) = some c := by
  have hm : 0 ≤ (2147483647 : Int32).toInt := by decide
  unfold fn_Law_cell
  by_cases h : nI L ≤ nI j
  · rw [if_pos h]; exact ⟨_, jz_and_nn hm, rfl⟩
  · rw [if_neg h]
    rw [nI_lei (by omega) (by omega)] at h
    rw [nI_clamp (by omega), if_neg (nI_in2 (by omega) (by omega))]
    exact ⟨_, jz_and_nn hm, rfl⟩
/-! What the law types: items, one behind the others. -/
def jz_ll : Bool → List (Nat × Nat) → Bool
  | b, [] => b
  | _, q :: l => jz_ll (decide (q.1 = 1 ∨ q.1 = 2)) l
theorem jz_adj_snoc : ∀ (l : List (Nat × Nat)) (b : Bool) (q : Nat × Nat), jz_adj b l → (q.1 = 11 → jz_ll b l = true) → jz_adj b (l ++ [q])
  | [], b, q, _, h => ⟨h, trivial⟩
  | r :: l, b, q, h1, h2 => ⟨h1.1, jz_adj_snoc l _ q h1.2 h2⟩
theorem jz_ll_snoc : ∀ (l : List (Nat × Nat)) (b : Bool) (q : Nat × Nat), jz_ll b (l ++ [q]) = decide (q.1 = 1 ∨ q.1 = 2)
  | [], _, _ => rfl
  | r :: l, _, q => jz_ll_snoc l _ q
/-- the last item's kind -/
def jz_lk : List (Nat × Nat) → Nat → Nat
  | [], b => b
  | q :: l, _ => jz_lk l q.1
theorem jz_lk_snoc : ∀ (l : List (Nat × Nat)) (b : Nat) (q : Nat × Nat), jz_lk (l ++ [q]) b = q.1
  | [], _, _ => rfl
  | r :: l, _, q => jz_lk_snoc l _ q
theorem jz_dd_snoc : ∀ (l : List (Nat × Nat)) (q : Nat × Nat), jz_dd l → (q.1 = 1 → jz_lk l 0 ≠ 1) → jz_dd (l ++ [q])
  | [], q, _, _ => ⟨fun _ r l' h => (by cases h), trivial⟩
  | [a], q, _, h2 => ⟨fun h r l' e => by
      have e1 : q = r := (List.cons.inj e).1
      exact fun hr => h2 (by rw [e1]; exact hr) h, ⟨fun _ r l' e => (by cases e), trivial⟩⟩
  | a :: b :: l, q, h1, h2 => ⟨fun h r l' e => h1.1 h r l (by rw [show r = b from ((List.cons.inj e).1).symm]), jz_dd_snoc (b :: l) q h1.2 h2⟩
theorem jz_go_snoc : ∀ (l : List (Nat × Nat)) (s s1 s2 : Nat × Nat × Nat × Nat × Nat) (q : Nat × Nat), zgo s (jz_li l) = some s1 → zsy s1 q.1 = some s2 → zgo s (jz_li (l ++ [q])) = some s2
  | [], s, s1, s2, q, h, h2 => by
    cases h
    show zgo s ((q.1, q.2, 0) :: []) = _
    unfold zgo
    dsimp only
    rw [h2]; rfl
  | r :: l, s, s1, s2, q, h, h2 => by
    change zgo s ((r.1, r.2, 0) :: jz_li l) = some s1 at h
    obtain ⟨s3, h3, h4⟩ := zgo_step h
    show zgo s ((r.1, r.2, 0) :: jz_li (l ++ [q])) = _
    unfold zgo
    dsimp only at h3 ⊢
    rw [h3]
    exact jz_go_snoc l s3 s1 s2 q h4 h2
theorem jz_tk_snoc (l : List (Nat × Nat)) (q : Nat × Nat) : jz_tk (l ++ [q]) = jz_tk l ++ if q.1 = 0 then [] else [q] := by
  unfold jz_tk
  rw [List.filter_append]
  by_cases h : q.1 = 0
  · rw [if_pos h, List.filter_cons_of_neg (by simp [h])]; rfl
  · rw [if_neg h, List.filter_cons_of_pos (by simp [h])]; rfl
/-- what was typed so far: its items, where the grammar stands, the primes -/
def jz_E (it : List (Nat × Nat)) (st pr : Nat) : Prop :=
  (∀ q ∈ it, jz_it q) ∧ (∀ q ∈ jz_tk it, jz_tg q) ∧ jz_dd it ∧ jz_adj false (jz_tk it) ∧ zgo zs0 (jz_li (jz_tk it)) = some (st, 0, 0, pr, 0) ∧ (jz_lk it 0 = 1 ∨ jz_lk it 0 = 2 → jz_ll false (jz_tk it) = true)
theorem jz_E_nil : jz_E [] 0 0 := ⟨fun q h => absurd h List.not_mem_nil, fun q h => absurd h List.not_mem_nil, trivial, trivial, rfl, fun h => absurd h (by decide)⟩
theorem jz_E_put {it : List (Nat × Nat)} {st pr st' pr' : Nat} {q : Nat × Nat} (h : jz_E it st pr) (hq : jz_it q) (ht : jz_tg q) (hd : q.1 = 1 → jz_lk it 0 ≠ 1) (ha : q.1 = 11 → jz_lk it 0 = 1 ∨ jz_lk it 0 = 2) (hz : zsy (st, 0, 0, pr, 0) q.1 = some (st', 0, 0, pr', 0)) : jz_E (it ++ [q]) st' pr' ∧ jz_lk (it ++ [q]) 0 = q.1 := by
  obtain ⟨h1, h2, h3, h4, h5, h6⟩ := h
  have h0 : ¬ q.1 = 0 := by unfold jz_tg at ht; omega
  have e : jz_tk (it ++ [q]) = jz_tk it ++ [q] := by rw [jz_tk_snoc, if_neg h0]
  refine ⟨⟨fun x hx => ?_, fun x hx => ?_, jz_dd_snoc it q h3 hd, ?_, ?_, fun hx => ?_⟩, jz_lk_snoc _ _ _⟩
  · rcases List.mem_append.mp hx with hx | hx
    · exact h1 x hx
    · rw [List.mem_singleton.mp hx]; exact hq
  · rw [e] at hx
    rcases List.mem_append.mp hx with hx | hx
    · exact h2 x hx
    · rw [List.mem_singleton.mp hx]; exact ht
  · rw [e]; exact jz_adj_snoc _ _ _ h4 (fun h => h6 (ha h))
  · rw [e]; exact jz_go_snoc _ _ _ _ _ h5 hz
  · rw [e, jz_ll_snoc]
    rw [jz_lk_snoc] at hx
    exact decide_eq_true hx
theorem jz_E_bl {it : List (Nat × Nat)} {st pr : Nat} (h : jz_E it st pr) : jz_E (it ++ [(0, 0)]) st pr ∧ jz_lk (it ++ [(0, 0)]) 0 = 0 := by
  obtain ⟨h1, h2, h3, h4, h5, h6⟩ := h
  have e : jz_tk (it ++ [(0, 0)]) = jz_tk it := by rw [jz_tk_snoc, if_pos rfl, List.append_nil]
  refine ⟨⟨fun x hx => ?_, ?_, jz_dd_snoc it _ h3 (fun h => absurd h (by decide)), ?_, ?_, fun hx => ?_⟩, jz_lk_snoc _ _ _⟩
  · rcases List.mem_append.mp hx with hx | hx
    · exact h1 x hx
    · rw [List.mem_singleton.mp hx]; exact Or.inl ⟨rfl, rfl⟩
  · rw [e]; exact h2
  · rw [e]; exact h4
  · rw [e]; exact h5
  · rw [jz_lk_snoc] at hx; exact absurd hx (by decide)
theorem jz_txt_snoc (it : List (Nat × Nat)) (q : Nat × Nat) : jz_txt (it ++ [q]) = jz_txt it ++ jz_ch q := by
  rw [jz_txt_app]
  show jz_txt it ++ (jz_ch q ++ []) = _
  rw [List.append_nil]
/-- one character typed -/
theorem jz_append {nc : Int32} {cf : Nat → Int32} {tx : List Nat} (h1 : zstr 80 nc cf tx) (hl : tx.length < 80) {c : Nat} (hc : 32 ≤ c ∧ c < 127) : zwp (fn_Parser_append nc cf (nI c)) (fun a => a.1 = nI (tx.length + 1) ∧ zstr 80 a.2.1 a.2.2 (tx ++ [c])) := by
  unfold fn_Parser_append
  have e1 : (32 : Int32) = nI 32 := rfl
  have e2 : (126 : Int32) = nI 126 := rfl
  rw [if_neg (by rw [e1, nI_lti (by omega) (by omega)]; omega), if_pos (by rw [e2, nI_lei (by omega) (by omega)]; omega)]
  unfold fn_CharRow_room fn_CharRow_size
  have er : nI 80 - nc = nI (80 - tx.length) := by rw [h1.1, nI_sub h1.2.1]
  rw [er, if_neg (nI_ne0 (by omega) (by omega))]
  refine zwp_ret (sp_put (x := c) (by decide) h1 (by omega) (by omega)) (fun r hr => ⟨?_, hr⟩)
  rw [hr.1, List.length_append]; rfl
theorem jz_app {β : Type} {nc : Int32} {cf : Nat → Int32} {tx : List Nat} {c : Nat} {x : Int32} {A B : Int32 × Int32 × (Nat → Int32) → Option β} {P : β → Prop} (h1 : zstr 80 nc cf tx) (hl : tx.length < 80) (hc : 32 ≤ c ∧ c < 127) (hx : x = nI c) (k : ∀ q : Int32 × Int32 × (Nat → Int32), zstr 80 q.2.1 q.2.2 (tx ++ [c]) → zwp (B q) P) : zwp ((fn_Parser_append nc cf x).bind fun q => if q.1 ≤ 0 then A q else B q) P := by
  subst hx
  refine zwp_seq (jz_append h1 hl hc) (fun q hq => zwp_f ?_ (k q hq.2))
  rw [hq.1]
  exact nI_ge (a := 0) (by omega) (by omega)
/-! One power, typed. -/
theorem jz_fch : jz_ch (3, 0) = [97, 98, 115] ∧ jz_ch (4, 0) = [115, 103, 110] ∧ jz_ch (5, 0) = [115, 113, 114] ∧ jz_ch (6, 0) = [100, 98, 108] := by decide +kernel
section PW
variable {P : Int32 × Int32 × (Nat → Int32) → Prop}
/-- a function's name -/
theorem jz_fname {nc : Int32} {cf : Nat → Int32} {tx : List Nat} (h1 : zstr 80 nc cf tx) (hl : tx.length + 3 ≤ 80) {f : Nat} (hf : 1 ≤ f ∧ f ≤ 4) (p e w : Int32) (k : ∀ a b, zstr 80 a b (tx ++ jz_ch (f + 2, 0)) → zwp (fn_Law_power_b116 a b (nI f) p e w 1) P) : zwp (fn_Law_power nc cf (nI f) p e w) P := by
  obtain ⟨f3, f4, f5, f6⟩ := jz_fch
  have l1 : ∀ a : Nat, (tx ++ [a]).length = tx.length + 1 := fun a => by rw [List.length_append]; rfl
  have l2 : ∀ a b : Nat, ((tx ++ [a]) ++ [b]).length = tx.length + 2 := fun a b => by rw [List.length_append, List.length_append]; rfl
  have ap : ∀ a b c : Nat, ((tx ++ [a]) ++ [b]) ++ [c] = tx ++ [a, b, c] := fun a b c => by simp
  have h : f = 1 ∨ f = 2 ∨ f = 3 ∨ f = 4 := by omega
  unfold fn_Law_power
  rcases h with rfl | rfl | rfl | rfl
  · rw [f3] at k
    refine zwp_f (by decide) (zwp_t rfl ?_)
    unfold fn_Law_power_b30
    refine jz_app (c := 97) h1 (by omega) (by decide) rfl (fun q hq => zwp_t rfl ?_)
    unfold fn_Law_power_b47 fn_Law_power_b64
    refine jz_app (c := 98) hq (by rw [l1]; omega) (by decide) rfl (fun q hq => zwp_t rfl ?_)
    unfold fn_Law_power_b103
    refine jz_app (c := 115) hq (by rw [l2]; omega) (by decide) rfl (fun q hq => ?_)
    rw [ap] at hq
    exact k _ _ hq
  · rw [f4] at k
    refine zwp_f (by decide) (zwp_f (by decide) (zwp_f (by decide) ?_))
    unfold fn_Law_power_b30
    refine jz_app (c := 115) h1 (by omega) (by decide) rfl (fun q hq => zwp_f (by decide) (zwp_f (by decide) (zwp_t rfl ?_)))
    unfold fn_Law_power_b64
    refine jz_app (c := 103) hq (by rw [l1]; omega) (by decide) rfl (fun q hq => zwp_f (by decide) (zwp_t rfl ?_))
    unfold fn_Law_power_b103
    refine jz_app (c := 110) hq (by rw [l2]; omega) (by decide) rfl (fun q hq => ?_)
    rw [ap] at hq
    exact k _ _ hq
  · rw [f5] at k
    refine zwp_f (by decide) (zwp_f (by decide) (zwp_f (by decide) ?_))
    unfold fn_Law_power_b30
    refine jz_app (c := 115) h1 (by omega) (by decide) rfl (fun q hq => zwp_f (by decide) (zwp_f (by decide) (zwp_f (by decide) ?_)))
    unfold fn_Law_power_b64
    refine jz_app (c := 113) hq (by rw [l1]; omega) (by decide) rfl (fun q hq => zwp_f (by decide) (zwp_f (by decide) (zwp_t rfl ?_)))
    unfold fn_Law_power_b103
    refine jz_app (c := 114) hq (by rw [l2]; omega) (by decide) rfl (fun q hq => ?_)
    rw [ap] at hq
    exact k _ _ hq
  · rw [f6] at k
    refine zwp_f (by decide) (zwp_f (by decide) (zwp_t rfl ?_))
    unfold fn_Law_power_b30
    refine jz_app (c := 100) h1 (by omega) (by decide) rfl (fun q hq => zwp_f (by decide) (zwp_t rfl ?_))
    unfold fn_Law_power_b47 fn_Law_power_b64
    refine jz_app (c := 98) hq (by rw [l1]; omega) (by decide) rfl (fun q hq => zwp_f (by decide) (zwp_f (by decide) (zwp_f (by decide) ?_)))
    unfold fn_Law_power_b103
    refine jz_app (c := 108) hq (by rw [l2]; omega) (by decide) rfl (fun q hq => ?_)
    rw [ap] at hq
    exact k _ _ hq
/-- the primes -/
theorem jz_pprimes {f p : Nat} (hp : p ≤ 2) (e w : Int32) : ∀ (n j : Nat) (nc : Int32) (cf : Nat → Int32) (it : List (Nat × Nat)), j ≤ p → p - j < n → jz_E it 2 j → zstr 80 nc cf (jz_txt it) → (jz_txt it).length + (p - j) ≤ 80 → jz_lk it 0 ≠ 1 →
    (∀ a b it', jz_E it' 2 p → jz_lk it' 0 ≠ 1 → zstr 80 a b (jz_txt it') → (jz_txt it').length = (jz_txt it).length + (p - j) → zwp (fn_Law_power_b152 a b (nI f) (nI p) e w 1) P) → zwp (fn_Law_power_L119 n nc cf (nI f) (nI p) e w 1 (nI j)) P
  | 0, _, _, _, _, _, h, _, _, _, _, _ => absurd h (Nat.not_lt_zero _)
  | n + 1, j, nc, cf, it, hj, hn, hE, hs, hl, hlk, k => by
    unfold fn_Law_power_L119
    by_cases h : p = j
    · subst h
      exact zwp_t (nI_le (Nat.le_refl _) (by omega)) (k _ _ it hE hlk hs (by omega))
    · refine zwp_f (nI_ge (by omega) (by omega)) (zwp_f (by decide) ?_)
      refine jz_app (c := 39) hs (by omega) (by decide) rfl (fun q hq => ?_)
      unfold fn_Law_power_b144
      rw [nI_add1]
      obtain ⟨hE', hk'⟩ := jz_E_put (q := (24, 0)) hE (Or.inr (Or.inr (Or.inr (Or.inr ⟨Or.inr (by decide), rfl⟩)))) (Or.inr (Or.inr (Or.inr rfl))) (fun h => absurd h (by decide)) (fun h => absurd h (by decide)) (jz_zsy_prime (by omega))
      have et : jz_txt (it ++ [(24, 0)]) = jz_txt it ++ [39] := jz_txt_snoc _ _
      have hl' : (jz_txt it ++ [39]).length = (jz_txt it).length + 1 := by rw [List.length_append]; rfl
      refine jz_pprimes hp e w n (j + 1) _ _ (it ++ [(24, 0)]) (by omega) (by omega) hE' (by rw [et]; exact hq) (by rw [et, hl']; omega) (by rw [hk']; decide) (fun a b it' x1 x0 x2 x3 => k a b it' x1 x0 x2 ?_)
      rw [x3, et, hl']; omega
theorem jz_w1 : ∀ w, w < 4 → 119 + nI w = nI (97 + (22 + w)) := by decide +kernel
theorem jz_w2 : ∀ w, w < 30 → 26 ≤ w → (48 + nI w) - 26 = nI (48 + (w - 26)) := by decide +kernel
theorem jz_w3 : ∀ e, e < 3 → 48 + nI e = nI (48 + e) := by decide +kernel
/-- the letter or number, and the exponent -/
theorem jz_pleaf {nc : Int32} {cf : Nat → Int32} {it : List (Nat × Nat)} {st pr e w : Nat} (hE : jz_E it st pr) (hs : zstr 80 nc cf (jz_txt it)) (hl : (jz_txt it).length + 3 ≤ 80) (he : e ≤ 3) (hw : w < 4 ∨ 26 ≤ w ∧ w < 30) (hz : w < 4 ∨ st < 3) (hst : st < 4) (hlk : 26 ≤ w → jz_lk it 0 ≠ 1) :
    zwp (fn_Law_power_b181 nc cf (nI e) (nI w)) (fun r => r.1 = 1 ∧ ∃ it' pr', jz_E it' 3 pr' ∧ zstr 80 r.2.1 r.2.2 (jz_txt it') ∧ (jz_txt it').length ≤ (jz_txt it).length + 3) := by
  have key : ∀ (q : Nat × Nat) (c : Nat) (x : Int32), jz_E (it ++ [q]) 3 pr ∧ jz_lk (it ++ [q]) 0 = q.1 → (q.1 = 1 ∨ q.1 = 2) → jz_ch q = [c] → 32 ≤ c ∧ c < 127 → x = nI c → zwp (fn_Law_power_b205 nc cf (nI e) x) (fun r => r.1 = 1 ∧ ∃ it' pr', jz_E it' 3 pr' ∧ zstr 80 r.2.1 r.2.2 (jz_txt it') ∧ (jz_txt it').length ≤ (jz_txt it).length + 3) := by
    intro q c x ⟨hE1, hk1⟩ hq hch hc hx
    have et : jz_txt (it ++ [q]) = jz_txt it ++ [c] := by rw [jz_txt_snoc, hch]
    have hl1 : (jz_txt it ++ [c]).length = (jz_txt it).length + 1 := by rw [List.length_append]; rfl
    unfold fn_Law_power_b205
    refine jz_app hs (by omega) hc hx (fun r hr => ?_)
    rw [← et] at hr hl1
    unfold fn_Law_power_b216
    refine zwp_f (by decide) ?_
    by_cases h3 : e = 3
    · subst h3
      exact zwp_t rfl (zwp_some ⟨rfl, _, pr, hE1, hr, by omega⟩)
    · refine zwp_f (fun h => h3 ((nI_inj (b := 3) (by omega) (by decide)).mp h)) ?_
      obtain ⟨hE2, hk2⟩ := jz_E_put (q := (11, 0)) hE1 (Or.inr (Or.inr (Or.inr (Or.inr ⟨Or.inl (by decide), rfl⟩)))) (Or.inr (Or.inr (Or.inl (by decide)))) (fun h => absurd h (by decide)) (fun _ => by rw [hk1]; exact hq) (jz_zsy_op (by decide))
      obtain ⟨hE3, hk3⟩ := jz_E_put (q := (1, e)) hE2 (Or.inr (Or.inl ⟨rfl, by show e < 10; omega⟩)) (Or.inl ⟨rfl, by show e < 10; omega⟩) (fun _ => by rw [hk2]; decide) (fun h => absurd (show (1 : Nat) = 11 from h) (by decide)) (jz_zsy_leaf (by decide) (Or.inl rfl))
      have e2 : jz_txt ((it ++ [q]) ++ [(11, 0)]) = jz_txt (it ++ [q]) ++ [94] := by rw [jz_txt_snoc]; rfl
      have e3 : jz_txt (((it ++ [q]) ++ [(11, 0)]) ++ [(1, e)]) = (jz_txt (it ++ [q]) ++ [94]) ++ [48 + e] := by rw [jz_txt_snoc, e2]; rfl
      have l2 : (jz_txt (it ++ [q]) ++ [94]).length = (jz_txt it).length + 2 := by rw [List.length_append, hl1]; rfl
      have l3 : ((jz_txt (it ++ [q]) ++ [94]) ++ [48 + e]).length = (jz_txt it).length + 3 := by rw [List.length_append, l2]; rfl
      refine jz_app (c := 94) hr (by omega) (by decide) rfl (fun r2 hr2 => ?_)
      refine jz_app (c := 48 + e) hr2 (by omega) (by omega) (jz_w3 e (by omega)) (fun r3 hr3 => zwp_some ⟨rfl, _, pr, hE3, ?_, ?_⟩)
      · rw [e3]; exact hr3
      · rw [e3, l3]; omega
  unfold fn_Law_power_b181
  by_cases h : w < 4
  · refine zwp_f (nI_ge (a := w) (b := 26) (by omega) (by decide)) ?_
    refine key (2, 22 + w) (97 + (22 + w)) _ (jz_E_put hE (Or.inr (Or.inr (Or.inl ⟨rfl, by show 22 ≤ 22 + w; omega, by show 22 + w < 26; omega⟩))) (Or.inr (Or.inl ⟨rfl, by show 22 ≤ 22 + w; omega, by show 22 + w < 26; omega⟩)) (fun h => absurd (show (2 : Nat) = 1 from h) (by decide)) (fun h => absurd (show (2 : Nat) = 11 from h) (by decide)) ?_) (Or.inr rfl) rfl (by omega) (jz_w1 w h)
    show zsy (st, 0, 0, pr, 0) 2 = _
    unfold zsy
    rw [if_neg (fun h1 => by have := h1.2; omega)]
    rfl
  · refine zwp_t (nI_le (a := 26) (b := w) (by omega) (by omega)) ?_
    refine key (1, w - 26) (48 + (w - 26)) _ (jz_E_put hE (Or.inr (Or.inl ⟨rfl, by show w - 26 < 10; omega⟩)) (Or.inl ⟨rfl, by show w - 26 < 10; omega⟩) (fun _ => hlk (by omega)) (fun h => absurd (show (1 : Nat) = 11 from h) (by decide)) (jz_zsy_leaf (by omega) (Or.inl rfl))) (Or.inl rfl) rfl (by omega) (jz_w2 w (by omega) (by omega))
end PW
/-- one power -/
theorem jz_power {nc : Int32} {cf : Nat → Int32} {it : List (Nat × Nat)} {st pr f p e w : Nat} (hE : jz_E it st pr) (hs : zstr 80 nc cf (jz_txt it)) (hl : (jz_txt it).length + 8 ≤ 80) (hf : f ≤ 4) (hp : p ≤ 2) (hp0 : f = 0 → p = 0) (he : e ≤ 3) (hw : w < 4 ∨ 26 ≤ w ∧ w < 30) (hst : st < 4) (h2 : st ≠ 2) (hnum : f = 0 → w < 4 ∨ st < 3) (hlk : st < 3 → jz_lk it 0 ≠ 1) :
    zwp (fn_Law_power nc cf (nI f) (nI p) (nI e) (nI w)) (fun r => r.1 = 1 ∧ ∃ it' pr', jz_E it' 3 pr' ∧ zstr 80 r.2.1 r.2.2 (jz_txt it') ∧ (jz_txt it').length ≤ (jz_txt it).length + 8) := by
  by_cases h0 : f = 0
  · subst h0
    have := hp0 rfl
    subst this
    unfold fn_Law_power
    refine zwp_t (by decide) ?_
    unfold fn_Law_power_b116
    have : zFU = 99999 + 1 := rfl
    rw [this]
    unfold fn_Law_power_L119
    refine zwp_t (by decide) ?_
    unfold fn_Law_power_b152
    refine zwp_f (by decide) (zwp_t rfl ?_)
    refine zwp_mono (jz_pleaf hE hs (by omega) he hw (hnum rfl) hst (fun h => ?_)) (fun r hr => ?_)
    · rcases hnum rfl with h' | h'
      · omega
      · exact hlk h'
    · obtain ⟨r1, it', pr', r2, r3, r4⟩ := hr
      exact ⟨r1, it', pr', r2, r3, by omega⟩
  · have hch3 : (jz_ch (f + 2, 0)).length = 3 := by
      obtain ⟨f3, f4, f5, f6⟩ := jz_fch
      have h : f = 1 ∨ f = 2 ∨ f = 3 ∨ f = 4 := by omega
      rcases h with rfl | rfl | rfl | rfl
      · rw [f3]; rfl
      · rw [f4]; rfl
      · rw [f5]; rfl
      · rw [f6]; rfl
    refine jz_fname hs (by omega) (f := f) (by omega) _ _ _ (fun a b hab => ?_)
    obtain ⟨hE1, hk1⟩ := jz_E_put (q := (f + 2, 0)) hE (Or.inr (Or.inr (Or.inr (Or.inl ⟨by show 3 ≤ f + 2; omega, by show f + 2 ≤ 6; omega, rfl⟩)))) (Or.inr (Or.inr (Or.inl ⟨by show 3 ≤ f + 2; omega, by show f + 2 ≤ 11; omega⟩))) (fun h => absurd h (by show ¬ f + 2 = 1; omega)) (fun h => absurd h (by show ¬ f + 2 = 11; omega)) (jz_zsy_fun ⟨by show 3 ≤ f + 2; omega, by show f + 2 ≤ 6; omega⟩)
    have et : jz_txt (it ++ [(f + 2, 0)]) = jz_txt it ++ jz_ch (f + 2, 0) := jz_txt_snoc _ _
    have hl1 : (jz_txt (it ++ [(f + 2, 0)])).length = (jz_txt it).length + 3 := by rw [et, List.length_append, hch3]
    rw [← et] at hab
    unfold fn_Law_power_b116
    refine jz_pprimes hp _ _ zFU 0 a b _ (Nat.zero_le _) (Nat.lt_of_le_of_lt (by omega : p - 0 ≤ 2) (by decide)) hE1 hab (by omega) (by rw [hk1]; show ¬ f + 2 = 1; omega) (fun a2 b2 it2 hE2 hlk2 hs2 hl2 => ?_)
    unfold fn_Law_power_b152
    refine zwp_f (by decide) (zwp_f (fun h => h0 ((nI_inj (b := 0) (by omega) (by decide)).mp h)) ?_)
    have fin : ∀ (a3 : Int32) (b3 : Nat → Int32) (it3 : List (Nat × Nat)), jz_E it3 2 p → jz_lk it3 0 ≠ 1 → zstr 80 a3 b3 (jz_txt it3) → (jz_txt it3).length ≤ (jz_txt it).length + 5 → zwp (fn_Law_power_b181 a3 b3 (nI e) (nI w)) (fun r => r.1 = 1 ∧ ∃ it' pr', jz_E it' 3 pr' ∧ zstr 80 r.2.1 r.2.2 (jz_txt it') ∧ (jz_txt it').length ≤ (jz_txt it).length + 8) := by
      intro a3 b3 it3 hE3 hlk3 hs3 hl3
      refine zwp_mono (jz_pleaf hE3 hs3 (by omega) he hw (Or.inr (by decide)) (by decide) (fun _ => hlk3)) (fun r hr => ?_)
      obtain ⟨r1, it', pr', r2, r3, r4⟩ := hr
      exact ⟨r1, it', pr', r2, r3, by omega⟩
    by_cases hp1 : 0 < p
    · exact zwp_t (by rw [show (0 : Int32) = nI 0 from rfl, nI_lti (by decide) (by omega)]; exact hp1) (fin _ _ _ hE2 hlk2 hs2 (by omega))
    refine zwp_f (by rw [show (0 : Int32) = nI 0 from rfl, nI_lti (by decide) (by omega)]; exact hp1) ?_
    by_cases hw1 : w < 26
    · exact zwp_t (by rw [show (26 : Int32) = nI 26 from rfl, nI_lti (by omega) (by decide)]; exact hw1) (fin _ _ _ hE2 hlk2 hs2 (by omega))
    refine zwp_f (by rw [show (26 : Int32) = nI 26 from rfl, nI_lti (by omega) (by decide)]; exact hw1) ?_
    refine jz_app (c := 32) hs2 (by omega) (by decide) rfl (fun q hq => ?_)
    obtain ⟨hE3, hk3⟩ := jz_E_bl hE2
    have e3 : jz_txt (it2 ++ [(0, 0)]) = jz_txt it2 ++ [32] := jz_txt_snoc _ _
    refine fin _ _ _ hE3 (by rw [hk3]; decide) (by rw [e3]; exact hq) ?_
    rw [e3, List.length_append]
    show (jz_txt it2).length + 1 ≤ _
    omega
/-! A product, typed. -/
theorem jz_addI (a b : Nat) : nI a + nI b = nI (a + b) := (Int32.ofNat_add a b).symm
section PR
abbrev jz_Kp : Type := Int32 → (Nat → Int32) → (Nat → Int32) → Int32 → Int32 → Int32 → Int32 → Int32 → Int32 → Option (Int32 × Int32 × (Nat → Int32) × (Nat → Int32))
variable {P : Int32 × Int32 × (Nat → Int32) × (Nat → Int32) → Prop}
/-- what a power is made of, as the law picks it -/
theorem jz_pick {K : jz_Kp} {nc : Int32} {cf pq : Nat → Int32} {x1 x3 x4 x5 v : Int32} {j f0 : Nat} (hv : 0 ≤ v.toInt) (hj : j < 3) (hf : f0 ≤ 4)
    (k : ∀ (x5' : Int32) (f p e w : Nat), f ≤ 4 → p ≤ 2 → (f = 0 → p = 0) → e ≤ 3 → (w < 4 ∨ 26 ≤ w ∧ w < 30) → (j = 0 ∨ 0 < f ∨ w < 4) → zwp (fn_Law_product_b188 K nc cf pq x1 x3 x4 x5' (nI j) (nI f) (nI p) (nI e) (nI w)) P) :
    zwp (fn_Law_product_b69 K nc cf pq x1 x3 x4 x5 (nI j) v (nI f0)) P := by
  have sh : ∀ s : Int32, 0 ≤ (v >>> s).toInt := fun s => jz_shr_nn hv
  -- the number or letter
  have h182 : ∀ (x5' : Int32) (f p e : Nat), f ≤ 4 → p ≤ 2 → (f = 0 → p = 0) → e ≤ 3 → zwp (fn_Law_product_b182 K nc cf pq x1 x3 x4 x5' (nI j) v (nI f) (nI p) (nI e)) P := by
    intro x5' f p e h1 h2 h3 h4
    unfold fn_Law_product_b182
    obtain ⟨r, hr, er⟩ := jz_rem (sh ((5 : Int32) &&& 31)) (m := 4) (k := 4) rfl (by decide) (by decide)
    rw [er]
    exact k x5' f p e r h1 h2 h3 h4 (Or.inl hr) (Or.inr (Or.inr hr))
  have h149 : ∀ (x5' : Int32) (f p e : Nat), f ≤ 4 → p ≤ 2 → (f = 0 → p = 0) → e ≤ 3 → (j = 0 ∨ 0 < f) → zwp (fn_Law_product_b149 K nc cf pq x1 x3 x4 x5' (nI j) v (nI f) (nI p) (nI e)) P := by
    intro x5' f p e h1 h2 h3 h4 h5
    unfold fn_Law_product_b149 fn_Law_product_b154
    refine zwp_f (by decide) (zwp_ite (fun _ => ?_) (fun _ => h182 x5' f p e h1 h2 h3 h4))
    obtain ⟨r, hr, er⟩ := jz_rem (sh ((4 : Int32) &&& 31)) (m := 4) (k := 4) rfl (by decide) (by decide)
    rw [er, show (26 : Int32) + nI r = nI (26 + r) from jz_addI 26 r]
    exact k x5' f p e (26 + r) h1 h2 h3 h4 (Or.inr ⟨by omega, by omega⟩) (by omega)
  have h129 : ∀ (x5' : Int32) (f p : Nat), f ≤ 4 → p ≤ 2 → (f = 0 → p = 0) → zwp (fn_Law_product_b129 K nc cf pq x1 x3 x4 x5' (nI j) v (nI f) (nI p)) P := by
    intro x5' f p h1 h2 h3
    unfold fn_Law_product_b129
    obtain ⟨r, hr, er⟩ := jz_rem (sh ((2 : Int32) &&& 31)) (m := 4) (k := 4) rfl (by decide) (by decide)
    rw [er]
    refine zwp_ite (fun hz => ?_) (fun _ => zwp_ite (fun _ => ?_) (fun hz => ?_))
    · exact h149 x5' f p r h1 h2 h3 (by omega) (Or.inl ((nI_inj (b := 0) (by omega) (by decide)).mp hz))
    · unfold fn_Law_product_b154
      exact zwp_t rfl (h182 x5' f p r h1 h2 h3 (by omega))
    · refine h149 x5' f p r h1 h2 h3 (by omega) (Or.inr ?_)
      rw [show (0 : Int32) = nI 0 from rfl, nI_lei (by omega) (by decide)] at hz
      omega
  have h106 : ∀ (x5' : Int32) (f : Nat), f ≤ 4 → zwp (fn_Law_product_b106 K nc cf pq x1 x3 x4 (nI j) v (nI f) x5') P := by
    intro x5' f h1
    unfold fn_Law_product_b106
    have h128 : zwp (fn_Law_product_b128 K nc cf pq x1 x3 x4 x5' (nI j) v (nI f)) P := by
      unfold fn_Law_product_b128
      exact h129 x5' f 0 h1 (by decide) (fun _ => rfl)
    refine zwp_ite (fun _ => h128) (fun hz => zwp_ite (fun _ => h128) (fun _ => ?_))
    rw [show (0 : Int32) = nI 0 from rfl, nI_lei (by omega) (by decide)] at hz
    obtain ⟨r, hr, er⟩ := jz_rem (sh ((3 : Int32) &&& 31)) (m := 3) (k := 3) rfl (by decide) (by decide)
    rw [er]
    exact h129 x5' f r h1 (by omega) (fun h => absurd h (by omega))
  have h88 : ∀ f : Nat, f ≤ 4 → zwp (fn_Law_product_b88 K nc cf pq x1 x3 x4 x5 (nI j) v (nI f)) P := by
    intro f h1
    unfold fn_Law_product_b88 fn_Law_product_b101
    exact zwp_ite (fun _ => zwp_ite (fun _ => h106 1 f h1) (fun _ => h106 0 f h1)) (fun _ => h106 1 f h1)
  unfold fn_Law_product_b69 fn_Law_product_b86
  exact zwp_ite (fun _ => zwp_ite (fun _ => h88 f0 hf) (fun _ => h88 4 (by decide))) (fun _ => h88 f0 hf)
/-- what a product leaves -/
def jz_Q (m : Nat) (it : List (Nat × Nat)) (p0 : Nat → Int32) (b : Nat) (r : Int32 × Int32 × (Nat → Int32) × (Nat → Int32)) : Prop :=
  r.1 = 1 ∧ (∃ it' pr', jz_E it' 3 pr' ∧ zstr 80 r.2.1 r.2.2.1 (jz_txt it') ∧ (jz_txt it').length ≤ (jz_txt it).length + 8 * m) ∧ ∀ i, i < b → r.2.2.2 i = p0 i
theorem jz_prodl {x1 : Int32} (h1 : 0 ≤ x1.toInt) {b m : Nat} (hb : b + 4 ≤ 52) (hm : m ≤ 3) : ∀ (n j : Nat) (nc : Int32) (cf pq : Nat → Int32) (x5 : Int32) (it : List (Nat × Nat)) (st pr : Nat), j ≤ m → m - j < n → jz_E it st pr → zstr 80 nc cf (jz_txt it) → (jz_txt it).length + 8 * (m - j) ≤ 80 → st < 4 → st ≠ 2 → (j = 0 → st < 3) → (st < 3 → jz_lk it 0 ≠ 1) → (j = m → st = 3) →
    zwp (fn_Law_product_L24 n nc cf pq x1 (nI b) (nI m) x5 1 (nI j)) (jz_Q (m - j) it pq b)
  | 0, _, _, _, _, _, _, _, _, _, h, _, _, _, _, _, _, _, _ => absurd h (Nat.not_lt_zero _)
  | n + 1, j, nc, cf, pq, x5, it, st, pr, hj, hn, hE, hs, hl, hst, h2, hj0, hlk, hend => by
    unfold fn_Law_product_L24
    by_cases h : j = m
    · refine zwp_t (nI_le (by omega) (by omega)) (zwp_f (fun h => h (Or.inr rfl)) (zwp_some ⟨rfl, ⟨it, pr, ?_, hs, by omega⟩, fun i _ => rfl⟩))
      have := hend h
      subst this
      exact hE
    · refine zwp_f (nI_ge (by omega) (by omega)) (zwp_f (by decide) ?_)
      have hv : 0 ≤ ((x1 >>> ((2 + (4 * nI j)) &&& 31)) &&& 1023).toInt := jz_and_nn (by decide)
      generalize ((x1 >>> ((2 + (4 * nI j)) &&& 31)) &&& 1023) = v at hv
      have hrest : ∀ f0 : Nat, f0 ≤ 4 → zwp (fn_Law_product_b69 (fn_Law_product_L24 n) nc cf pq x1 (nI b) (nI m) x5 (nI j) v (nI f0)) (jz_Q (m - j) it pq b) := by
        intro f0 hf0
        refine jz_pick hv (by omega) hf0 (fun x5' f p e w k1 k2 k3 k4 k5 k6 => ?_)
        unfold fn_Law_product_b188
        have ei : ((nI b + 1) + nI j) = nI (b + 1 + j) := by rw [nI_add1, jz_addI]
        rw [ei]
        refine zwp_f (by rw [nI_clamp (by omega)]; exact nI_in2 (by omega) (by omega)) ?_
        refine zwp_seq (jz_power hE hs (by omega) k1 k2 k3 k4 k5 hst h2 (fun hf => ?_) hlk) (fun q hq => ?_)
        · rcases k6 with k6 | k6 | k6
          · exact Or.inr (hj0 k6)
          · omega
          · exact Or.inl k6
        · obtain ⟨q1, it', pr', q2, q3, q4⟩ := hq
          rw [q1, nI_add1, nI_clamp (by omega)]
          refine zwp_mono (jz_prodl h1 hb hm n (j + 1) _ _ _ x5' it' 3 pr' (by omega) (by omega) q2 q3 (by omega) (by decide) (by decide) (fun h => absurd h (by omega)) (fun h => absurd h (by decide)) (fun _ => rfl)) (fun r hr => ?_)
          obtain ⟨r1, ⟨it2, pr2, r2, r3, r4⟩, r5⟩ := hr
          refine ⟨r1, ⟨it2, pr2, r2, r3, by omega⟩, fun i hi => ?_⟩
          rw [r5 i hi, upd_ne (by omega)]
      obtain ⟨r8, hr8, e8⟩ := jz_rem hv (m := 8) (k := 8) rfl (by decide) (by decide)
      obtain ⟨r4, hr4, e4⟩ := jz_rem hv (m := 4) (k := 4) rfl (by decide) (by decide)
      rw [e8, e4]
      refine zwp_ite (fun _ => ?_) (fun _ => hrest 0 (by decide))
      rw [nI_add1]
      exact hrest (r4 + 1) (by omega)
theorem jz_product {nc : Int32} {cf pq : Nat → Int32} {x1 : Int32} (h1 : 0 ≤ x1.toInt) {b : Nat} (hb : b + 4 ≤ 52) {it : List (Nat × Nat)} {st pr : Nat} (hE : jz_E it st pr) (hs : zstr 80 nc cf (jz_txt it)) (hl : (jz_txt it).length + 24 ≤ 80) (hst : st < 2) (hlk : jz_lk it 0 ≠ 1) :
    zwp (fn_Law_product nc cf pq x1 (nI b)) (jz_Q 3 it pq b) := by
  unfold fn_Law_product
  obtain ⟨r, hr, er⟩ := jz_rem h1 (m := 3) (k := 3) rfl (by decide) (by decide)
  rw [er, nI_clamp (by omega), show (1 : Int32) + nI r = nI (1 + r) from jz_addI 1 r]
  refine zwp_f (nI_in2 (by omega) (by omega)) ?_
  refine zwp_mono (jz_prodl h1 hb (m := 1 + r) (by omega) zFU 0 nc cf _ 0 it st pr (by omega) (Nat.lt_of_le_of_lt (by omega : 1 + r - 0 ≤ 3) (by decide)) hE hs (by omega) (by omega) (by omega) (fun _ => by omega) (fun _ => hlk) (fun h => absurd h (by omega))) (fun q hq => ?_)
  obtain ⟨q1, ⟨it2, pr2, q2, q3, q4⟩, q5⟩ := hq
  refine ⟨q1, ⟨it2, pr2, q2, q3, by omega⟩, fun i hi => ?_⟩
  rw [q5 i hi, upd_ne (by omega)]
end PR
/-! The whole formula, typed. -/
section FO
variable {L : Nat} {xs : Nat → Int32}
abbrev jz_K6 : Type := Int32 → (Nat → Int32) → (Nat → Int32) → Int32 → Int32 → Int32 → Option (Int32 × Int32 × (Nat → Int32) × (Nat → Int32))
variable {P : Int32 × Int32 × (Nat → Int32) × (Nat → Int32) → Prop}
theorem jz_op {it : List (Nat × Nat)} {pr k : Nat} (h : jz_E it 3 pr) (hk : 7 ≤ k ∧ k ≤ 10) : jz_E (it ++ [(k, 0)]) 1 pr ∧ jz_lk (it ++ [(k, 0)]) 0 ≠ 1 := by
  obtain ⟨h1, h2⟩ := jz_E_put (q := (k, 0)) h (Or.inr (Or.inr (Or.inr (Or.inr ⟨Or.inl ⟨hk.1, by show k ≤ 11; omega⟩, rfl⟩)))) (Or.inr (Or.inr (Or.inl ⟨by show 3 ≤ k; omega, by show k ≤ 11; omega⟩))) (fun h => absurd (show k = 1 from h) (by omega)) (fun h => absurd (show k = 11 from h) (by omega)) (jz_zsy_op ⟨hk.1, by omega⟩)
  exact ⟨h1, by rw [h2]; show ¬ k = 1; omega⟩
theorem jz_och : jz_ch (7, 0) = [43] ∧ jz_ch (8, 0) = [45] ∧ jz_ch (9, 0) = [42] ∧ jz_ch (10, 0) = [47] := by decide +kernel
/-- the products of one term -/
theorem jz_forl {K : jz_K6} {x2 x8 : Int32} (h8 : 0 ≤ x8.toInt) {t b m : Nat} (hb : b + 12 ≤ 52) (hm : m ≤ 2) (p0 : Nat → Int32) (l0 : Nat) (hl0 : l0 + 25 * m ≤ 80)
    (k : ∀ nc cf pq it pr, jz_E it 3 pr → zstr 80 nc cf (jz_txt it) → (jz_txt it).length ≤ l0 + 25 * m → (∀ i, i < b → pq i = p0 i) → zwp (K nc cf pq x2 1 (nI (t + 1))) P) :
    ∀ (n j : Nat) (nc : Int32) (cf pq : Nat → Int32) (it : List (Nat × Nat)) (st pr : Nat), j ≤ m → m - j < n → jz_E it st pr → zstr 80 nc cf (jz_txt it) → (jz_txt it).length ≤ l0 + 25 * j → (j = 0 → st < 2 ∧ jz_lk it 0 ≠ 1) → (0 < j → st = 3) → 0 < m → pq (b + 1) = nI m → (∀ i, i < b → pq i = p0 i) →
      zwp (fn_Law_formula_L166 L xs K n nc cf pq x2 1 (nI t) (nI b) x8 (nI j)) P
  | 0, _, _, _, _, _, _, _, _, h, _, _, _, _, _, _, _, _ => absurd h (Nat.not_lt_zero _)
  | n + 1, j, nc, cf, pq, it, st, pr, hj, hn, hE, hs, hl, hj0, hj1, hm0, hpm, hp => by
    unfold fn_Law_formula_L166
    have e1 : nI b + 1 = nI (b + 1) := nI_add1 b
    have e2 : nI b + 2 = nI (b + 2) := jz_addI b 2
    rw [e1, e2, nI_clamp (by omega), nI_clamp (by omega)]
    refine zwp_f (nI_in2 (by omega) (by omega)) ?_
    rw [hpm]
    by_cases h : j = m
    · subst h
      refine zwp_t (nI_le (Nat.le_refl _) (by omega)) ?_
      unfold fn_Law_formula_b251
      rw [nI_add1]
      have := hj1 hm0
      subst this
      exact k nc cf pq it pr hE hs hl hp
    refine zwp_f (nI_ge (by omega) (by omega)) (zwp_f (by decide) ?_)
    -- one product
    have h211 : ∀ (nc : Int32) (cf : Nat → Int32) (it : List (Nat × Nat)) (st pr : Nat), jz_E it st pr → zstr 80 nc cf (jz_txt it) → (jz_txt it).length ≤ l0 + 25 * j + 1 → st < 2 → jz_lk it 0 ≠ 1 → zwp (fn_Law_formula_b211 L xs K (fn_Law_formula_L166 L xs K n) nc cf pq x2 (nI t) (nI b) x8 (nI j)) P := by
      intro nc cf it st pr hE hs hl hst hlk
      unfold fn_Law_formula_b211
      have e5 : (nI b + 3) + (5 * nI j) = nI (b + 3 + 5 * j) := by
        rw [show nI b + 3 = nI (b + 3) from jz_addI b 3, show (5 : Int32) * nI j = nI (5 * j) from nI_mulz 5 j, jz_addI]
      rw [e5]
      refine zwp_seq (jz_product (jz_shr_nn h8) (by omega) hE hs (by omega) hst hlk) (fun q hq => ?_)
      obtain ⟨q1, ⟨it2, pr2, q2, q3, q4⟩, q5⟩ := hq
      rw [q1]
      refine zwp_f (by decide) ?_
      unfold fn_Law_formula_b243
      rw [nI_add1]
      refine jz_forl h8 hb hm p0 l0 hl0 k n (j + 1) _ _ _ it2 3 pr2 (by omega) (by omega) q2 q3 (by omega) (fun h => absurd h (by omega)) (fun _ => rfl) hm0 ?_ (fun i hi => ?_)
      · rw [q5 (b + 1) (by omega)]; exact hpm
      · rw [q5 i (by omega)]; exact hp i hi
    by_cases hz : j = 0
    · refine zwp_t (by rw [hz]; rfl) ?_
      obtain ⟨a1, a2⟩ := hj0 hz
      exact h211 nc cf it st pr hE hs (by omega) a1 a2
    refine zwp_f (fun h => hz ((nI_inj (b := 0) (by omega) (by decide)).mp h)) (zwp_f (nI_in2 (by omega) (by omega)) ?_)
    have := hj1 (by omega)
    subst this
    obtain ⟨-, -, o9, o10⟩ := jz_och
    unfold fn_Law_formula_b205
    refine zwp_ite (fun _ => ?_) (fun _ => ?_)
    · obtain ⟨hE2, hk2⟩ := jz_op (k := 10) hE (by decide)
      refine jz_app (c := 47) hs (by omega) (by decide) rfl (fun q hq => ?_)
      have et : jz_txt (it ++ [(10, 0)]) = jz_txt it ++ [47] := by rw [jz_txt_snoc, o10]
      rw [← et] at hq
      exact h211 _ _ _ 1 pr hE2 hq (by rw [et, List.length_append]; show (jz_txt it).length + 1 ≤ _; omega) (by decide) hk2
    · obtain ⟨hE2, hk2⟩ := jz_op (k := 9) hE (by decide)
      refine jz_app (c := 42) hs (by omega) (by decide) rfl (fun q hq => ?_)
      have et : jz_txt (it ++ [(9, 0)]) = jz_txt it ++ [42] := by rw [jz_txt_snoc, o9]
      rw [← et] at hq
      exact h211 _ _ _ 1 pr hE2 hq (by rw [et, List.length_append]; show (jz_txt it).length + 1 ≤ _; omega) (by decide) hk2
/-- what a formula leaves -/
def jz_R (r : Int32 × Int32 × (Nat → Int32) × (Nat → Int32)) : Prop := r.1 = 1 ∧ ∃ it pr, jz_E it 3 pr ∧ zstr 80 r.2.1 r.2.2.1 (jz_txt it)
/-- the terms -/
theorem jz_fort (hL : L ≤ 260) {m : Nat} (hm0 : 0 < m) (hm : m ≤ 2) : ∀ (n t : Nat) (nc : Int32) (cf pq : Nat → Int32) (it : List (Nat × Nat)) (st pr : Nat), t ≤ m → m - t < n → jz_E it st pr → zstr 80 nc cf (jz_txt it) → (jz_txt it).length ≤ 1 + (if m = 1 then 50 else 26) * t → (t = 0 → st < 2 ∧ jz_lk it 0 ≠ 1) → (0 < t → st = 3) → pq 0 = nI m →
      zwp (fn_Law_formula_L50 L xs n nc cf pq 0 1 (nI t)) jz_R
  | 0, _, _, _, _, _, _, _, _, h, _, _, _, _, _, _ => absurd h (Nat.not_lt_zero _)
  | n + 1, t, nc, cf, pq, it, st, pr, ht, hn, hE, hs, hl, ht0, ht1, hpm => by
    unfold fn_Law_formula_L50
    rw [show (0 : Int32).toNatClampNeg = 0 from rfl, hpm]
    by_cases h : t = m
    · refine zwp_t (nI_le (by omega) (by omega)) (zwp_f (fun h => h (Or.inr rfl)) (zwp_some ⟨rfl, it, pr, ?_, hs⟩))
      have := ht1 (by omega)
      subst this
      exact hE
    refine zwp_f (nI_ge (by omega) (by omega)) (zwp_f (by decide) ?_)
    have e1 : ((0 : Int32) + 1) + nI t = nI (1 + t) := jz_addI 1 t
    have e2 : (2 : Int32) + 16 * nI t = nI (2 + 16 * t) := by rw [show (16 : Int32) * nI t = nI (16 * t) from nI_mulz 16 t]; exact jz_addI 2 (16 * t)
    obtain ⟨c, hc, ec⟩ := jz_cell (L := L) (xs := xs) hL (j := 1 + t) (by omega)
    rw [e1, e2, ec, Option.bind_some, nI_clamp (by omega)]
    refine zwp_f (nI_in2 (by omega) (by omega)) ?_
    rw [upd_ne (by omega : 0 ≠ 2 + 16 * t), hpm, nI_add1]
    -- what stands behind the choice of the number of products
    have h116 : ∀ k : Nat, 1 ≤ k → k ≤ 2 → (m = 2 → k = 1) → ∀ pq0 : Nat → Int32, pq0 0 = nI m → zwp (fn_Law_formula_b116 L xs (fn_Law_formula_L50 L xs n) nc cf pq0 0 (nI t) (nI (2 + 16 * t)) c (nI (2 + 16 * t + 1)) (nI k)) jz_R := by
      intro k hk1 hk2 hmk pq0 hpq0
      unfold fn_Law_formula_b116
      rw [show nI (2 + 16 * t) + 2 = nI (2 + 16 * t + 2) from jz_addI _ 2, nI_clamp (by omega), nI_clamp (by omega), nI_clamp (by omega)]
      refine zwp_f (nI_in2 (by omega) (by omega)) (zwp_f (nI_in2 (by omega) (by omega)) ?_)
      generalize hpq : upd (upd pq0 (2 + 16 * t + 1) (nI k)) (2 + 16 * t + 2) _ = pq2
      have p0 : pq2 0 = nI m := by rw [← hpq, upd_ne (by omega), upd_ne (by omega)]; exact hpq0
      have p1 : pq2 (2 + 16 * t + 1) = nI k := by rw [← hpq, upd_ne (by omega), upd_at]
      have h156 : ∀ (nc : Int32) (cf : Nat → Int32) (it : List (Nat × Nat)) (st pr : Nat), jz_E it st pr → zstr 80 nc cf (jz_txt it) → (jz_txt it).length ≤ 2 + (if m = 1 then 50 else 26) * t → (t = 0 → (jz_txt it).length ≤ 1) → st < 2 → jz_lk it 0 ≠ 1 → zwp (fn_Law_formula_b156 L xs (fn_Law_formula_L50 L xs n) nc cf pq2 0 (nI t) (nI (2 + 16 * t)) c) jz_R := by
        intro nc cf it st pr hE hs hl hl0 hst hlk
        unfold fn_Law_formula_b156 fn_Law_formula_b161
        have hlen : (jz_txt it).length + 25 * k ≤ 1 + (if m = 1 then 50 else 26) * (t + 1) ∧ (jz_txt it).length + 25 * k ≤ 80 := by
          by_cases hm1 : m = 1
          · rw [if_pos hm1] at hl ⊢
            have : t = 0 := by omega
            have := hl0 this
            subst t
            omega
          · rw [if_neg hm1] at hl ⊢
            have := hmk (by omega)
            have ht' : t = 0 ∨ t = 1 := by omega
            rcases ht' with h | h
            · have := hl0 h
              subst h
              omega
            · subst h
              omega
        refine jz_forl hc (m := k) (by omega) hk2 pq2 (jz_txt it).length hlen.2 (fun nc3 cf3 pq3 it3 pr3 k1 k2 k3 k4 => ?_) zFU 0 nc cf pq2 it st pr (Nat.zero_le _) (Nat.lt_of_le_of_lt (by omega : k - 0 ≤ 2) (by decide)) hE hs (by omega) (fun _ => ⟨hst, hlk⟩) (fun h => absurd h (by omega)) hk1 p1 (fun _ _ => rfl)
        refine jz_fort hL hm0 hm n (t + 1) nc3 cf3 pq3 it3 3 pr3 (by omega) (by omega) k1 k2 (Nat.le_trans k3 hlen.1) (fun h => absurd h (by omega)) (fun _ => rfl) ?_
        rw [k4 0 (by omega)]; exact p0
      by_cases hz : t = 0
      · refine zwp_t (by rw [hz]; rfl) ?_
        obtain ⟨a1, a2⟩ := ht0 hz
        refine h156 nc cf it st pr hE hs (by omega) (fun _ => ?_) a1 a2
        rw [hz] at hl
        omega
      refine zwp_f (fun h => hz ((nI_inj (b := 0) (by omega) (by decide)).mp h)) (zwp_f (nI_in2 (by omega) (by omega)) ?_)
      have := ht1 (by omega)
      subst this
      have hl80 : (jz_txt it).length < 80 := by
        by_cases hm1 : m = 1
        · omega
        · rw [if_neg hm1] at hl
          have : t = 1 := by omega
          subst this
          omega
      obtain ⟨o7, o8, -, -⟩ := jz_och
      unfold fn_Law_formula_b150
      refine zwp_ite (fun _ => ?_) (fun _ => ?_)
      · obtain ⟨hE2, hk2'⟩ := jz_op (k := 8) hE (by decide)
        refine jz_app (c := 45) hs hl80 (by decide) rfl (fun q hq => ?_)
        have et : jz_txt (it ++ [(8, 0)]) = jz_txt it ++ [45] := by rw [jz_txt_snoc, o8]
        rw [← et] at hq
        exact h156 _ _ _ 1 pr hE2 hq (by rw [et, List.length_append]; show (jz_txt it).length + 1 ≤ _; omega) (fun h => absurd h hz) (by decide) hk2'
      · obtain ⟨hE2, hk2'⟩ := jz_op (k := 7) hE (by decide)
        refine jz_app (c := 43) hs hl80 (by decide) rfl (fun q hq => ?_)
        have et : jz_txt (it ++ [(7, 0)]) = jz_txt it ++ [43] := by rw [jz_txt_snoc, o7]
        rw [← et] at hq
        exact h156 _ _ _ 1 pr hE2 hq (by rw [et, List.length_append]; show (jz_txt it).length + 1 ≤ _; omega) (fun h => absurd h hz) (by decide) hk2'
    refine zwp_ite (fun _ => ?_) (fun hm2 => ?_)
    · obtain ⟨r, hr, er⟩ := jz_rem (jz_shr_nn (k := (1 : Int32) &&& 31) hc) (m := 2) (k := 2) rfl (by decide) (by decide)
      rw [er, show (1 : Int32) + nI r = nI (1 + r) from jz_addI 1 r]
      refine h116 (1 + r) (by omega) (by omega) (fun h => ?_) _ (by rw [upd_ne (by omega)]; exact hpm)
      rename_i hm1
      have := (nI_inj (a := m) (b := 1) (by omega) (by decide)).mp hm1
      omega
    · exact h116 1 (by decide) (by decide) (fun _ => rfl) _ (by rw [upd_ne (by omega)]; exact hpm)
/-- the whole formula -/
theorem jz_formula (hL : L ≤ 260) {nc : Int32} {cf : Nat → Int32} (pq : Nat → Int32) (hs : zstr 80 nc cf []) : zwp (fn_Law_formula L nc cf pq xs 0) jz_R := by
  unfold fn_Law_formula
  obtain ⟨c, hc, ec⟩ := jz_cell (L := L) (xs := xs) hL (j := 0) (by omega)
  rw [show (0 : Int32) = nI 0 from rfl, ec, Option.bind_some]
  obtain ⟨r, hr, er⟩ := jz_rem hc (m := 2) (k := 2) rfl (by decide) (by decide)
  rw [er, show (1 : Int32) + nI r = nI (1 + r) from jz_addI 1 r]
  rw [show (nI 0).toNatClampNeg = 0 from rfl, show (1 : Int32).toNatClampNeg = 1 from rfl, upd_at]
  generalize hpq : upd (upd pq 0 (nI (1 + r))) 1 _ = pq2
  have p0 : pq2 0 = nI (1 + r) := by rw [← hpq, upd_ne (by decide), upd_at]
  have h40 : ∀ (nc : Int32) (cf : Nat → Int32) (it : List (Nat × Nat)) (st pr : Nat), jz_E it st pr → zstr 80 nc cf (jz_txt it) → (jz_txt it).length ≤ 1 → st < 2 → jz_lk it 0 ≠ 1 → zwp (fn_Law_formula_b40 L xs nc cf pq2 (nI 0)) jz_R := by
    intro nc cf it st pr hE hs hl hst hlk
    unfold fn_Law_formula_b40 fn_Law_formula_b45
    exact jz_fort hL (m := 1 + r) (by omega) (by omega) zFU 0 nc cf pq2 it st pr (Nat.zero_le _) (Nat.lt_of_le_of_lt (by omega : 1 + r - 0 ≤ 2) (by decide)) hE hs (by omega) (fun _ => ⟨hst, hlk⟩) (fun h => absurd h (by omega)) p0
  refine zwp_ite (fun _ => ?_) (fun _ => ?_)
  · exact h40 nc cf [] 0 0 jz_E_nil hs (by decide) (by decide) (by decide)
  · obtain ⟨hE2, hk2⟩ := jz_E_put (q := (8, 0)) jz_E_nil (Or.inr (Or.inr (Or.inr (Or.inr ⟨Or.inl (by decide), rfl⟩)))) (Or.inr (Or.inr (Or.inl (by decide)))) (fun h => absurd h (by decide)) (fun h => absurd h (by decide)) jz_zsy_neg
    refine jz_app (c := 45) hs (by decide) (by decide) rfl (fun q hq => ?_)
    exact h40 _ _ ([] ++ [(8, 0)]) 1 0 hE2 hq (by decide) (by decide) (by rw [hk2]; decide)
end FO
/-! The class's answers alone. -/
/-- what was typed is a formula -/
theorem jz_typed {it : List (Nat × Nat)} {pr : Nat} (h : jz_E it 3 pr) (hl : (jz_txt it).length ≤ 80) : ztx (jz_txt it) ∧ zaccB (jz_txt it) = true ∧ jz_G (zTK (jz_txt it)) := by
  obtain ⟨h1, h2, h3, h4, h5, -⟩ := h
  have hx : ztx (jz_txt it) := ⟨hl, jz_txt_ok it h1⟩
  have em : (zTK (jz_txt it)).map jz_pr = jz_tk it := jz_tokens it h1 h3
  have hg : zgo zs0 (zTK (jz_txt it)) = some (3, 0, 0, pr, 0) := by rw [jz_zgo3, em]; exact h5
  obtain ⟨k1, k2, k3⟩ := zTK_ok hx
  refine ⟨hx, ?_, ?_, ?_, ⟨⟨_, hg, rfl, rfl, rfl⟩, k2, k1⟩, k3⟩
  · unfold zaccB; rw [hg]; rfl
  · rw [em]; exact h2
  · rw [em]; exact h4
/-- no links -/
theorem jz_acc0 {tx : List Nat} {r : Nat} (h : zaccB tx = true) (hS : zSu (zTK tx) 0 = [(0, r)]) : zaccA tx = 0 := by
  unfold zaccA
  rw [if_pos h, hS]
  rfl
theorem jz_syn0 {tx : List Nat} (h : zaccB tx = true) (hx : ztx tx) (hb : zbad zs0 (zTK tx) = none) : zsynA tx = -3 := by
  obtain ⟨-, s, hs, hf⟩ := zacc_t hx h
  unfold zsynA
  rw [hb, hs]
  exact if_pos hf
section CO
variable {pc tc wc bc : Int32} {pf tf wf bf : Nat → Int32} {l : List (Nat × Nat × Nat)} {g : Nat → Int32}
theorem jz_rd4 {rd : Nat} (h : rd < 4) : rd = 0 ∨ rd = 1 ∨ rd = 2 ∨ rd = 3 := by omega
theorem c_nodes {P : Nat → Nat} (h0 : pc = nI (P 0)) (h1 : tc = nI (P 1)) (h2 : wc = nI (P 2)) (h3 : bc = nI (P 3)) {rd : Nat} (hrd : rd < 4) : fn_Parser_nodeCount pc tc wc bc (nI rd) = nI (P rd) := by
  unfold fn_Parser_nodeCount fn_Tree_size
  rw [(zread_1 hrd).1, if_neg (by decide)]
  rcases jz_rd4 hrd with rfl | rfl | rfl | rfl
  · rw [if_neg (show ¬ nI 0 = (1 : Int32) by decide), if_neg (show ¬ nI 0 = (2 : Int32) by decide), if_neg (show ¬ nI 0 = (3 : Int32) by decide)]; exact h0
  · rw [if_pos (show nI 1 = (1 : Int32) from rfl)]; exact h1
  · rw [if_neg (show ¬ nI 2 = (1 : Int32) by decide), if_pos (show nI 2 = (2 : Int32) from rfl)]; exact h2
  · rw [if_neg (show ¬ nI 3 = (1 : Int32) by decide), if_neg (show ¬ nI 3 = (2 : Int32) by decide), if_pos (show nI 3 = (3 : Int32) from rfl)]; exact h3
theorem c_printedLen {P : Nat → List Nat} (hp : zpr4 pc pf tc tf wc wf bc bf P) {rd : Nat} (hrd : rd < 4) : fn_Parser_printedLength pc tc wc bc (nI rd) = nI (P rd).length := by
  unfold fn_Parser_printedLength fn_CharRow_size
  rw [(zread_1 hrd).1, if_neg (by decide)]
  rcases jz_rd4 hrd with rfl | rfl | rfl | rfl
  · rw [if_neg (show ¬ nI 0 = (1 : Int32) by decide), if_neg (show ¬ nI 0 = (2 : Int32) by decide), if_neg (show ¬ nI 0 = (3 : Int32) by decide)]; exact hp.1.1
  · rw [if_pos (show nI 1 = (1 : Int32) from rfl)]; exact hp.2.1.1
  · rw [if_neg (show ¬ nI 2 = (1 : Int32) by decide), if_pos (show nI 2 = (2 : Int32) from rfl)]; exact hp.2.2.1.1
  · rw [if_neg (show ¬ nI 3 = (1 : Int32) by decide), if_neg (show ¬ nI 3 = (2 : Int32) by decide), if_pos (show nI 3 = (3 : Int32) from rfl)]; exact hp.2.2.2.1.1
theorem c_speechLen {P : Nat → List Nat} (hp : zsp4 pc pf tc tf wc wf bc bf P) {rd : Nat} (hrd : rd < 4) : fn_Parser_speechLength pc tc wc bc (nI rd) = nI (P rd).length := by
  unfold fn_Parser_speechLength fn_CharRow_size
  rw [(zread_1 hrd).1, if_neg (by decide)]
  rcases jz_rd4 hrd with rfl | rfl | rfl | rfl
  · rw [if_neg (show ¬ nI 0 = (1 : Int32) by decide), if_neg (show ¬ nI 0 = (2 : Int32) by decide), if_neg (show ¬ nI 0 = (3 : Int32) by decide)]; exact hp.1.1
  · rw [if_pos (show nI 1 = (1 : Int32) from rfl)]; exact hp.2.1.1
  · rw [if_neg (show ¬ nI 2 = (1 : Int32) by decide), if_pos (show nI 2 = (2 : Int32) from rfl)]; exact hp.2.2.1.1
  · rw [if_neg (show ¬ nI 3 = (1 : Int32) by decide), if_neg (show ¬ nI 3 = (2 : Int32) by decide), if_pos (show nI 3 = (3 : Int32) from rfl)]; exact hp.2.2.2.1
theorem c_speechChar {P : Nat → List Nat} (hp : zsp4 pc pf tc tf wc wf bc bf P) {rd : Nat} (hrd : rd < 4) {i : Nat} (hi : i < 2 ^ 31) : fn_Parser_speechCharacter pc pf tc tf wc wf bc bf (nI rd) (nI i) = some (if i < (P rd).length then nI ((P rd).getD i 0) else -3) := by
  unfold fn_Parser_speechCharacter
  rw [(zread_1 hrd).1, if_neg (by decide : ¬ (1 : Int32) = 0), if_pos (nI_pos' hi)]
  rcases jz_rd4 hrd with rfl | rfl | rfl | rfl
  · rw [if_neg (show ¬ nI 0 = (1 : Int32) by decide), if_neg (show ¬ nI 0 = (2 : Int32) by decide), if_neg (show ¬ nI 0 = (3 : Int32) by decide), sp_at (by decide) hp.1 i hi]; rfl
  · rw [if_pos (show nI 1 = (1 : Int32) from rfl), sp_at (by decide) hp.2.1 i hi]; rfl
  · rw [if_neg (show ¬ nI 2 = (1 : Int32) by decide), if_pos (show nI 2 = (2 : Int32) from rfl), sp_at (by decide) hp.2.2.1 i hi]; rfl
  · rw [if_neg (show ¬ nI 3 = (1 : Int32) by decide), if_neg (show ¬ nI 3 = (2 : Int32) by decide), if_pos (show nI 3 = (3 : Int32) from rfl), sp_at (by decide) hp.2.2.2 i hi]; rfl
theorem c_app {nc : Int32} {cf : Nat → Int32} {tx : List Nat} (h4 : zfour l) (hp : zpr4 pc pf tc tf wc wf bc bf (zPx l)) (hlx : tx.length ≤ 80) (h1 : zstr 80 nc cf tx) {rd : Nat} (hrd : rd < 4) :
    zwp (fn_Parser_appendPrinted nc cf pc pf tc tf wc wf bc bf (nI rd)) (fun a => if (zPx l rd).length ≤ 80 - tx.length then a.1 = nI (tx.length + (zPx l rd).length) ∧ zstr 80 a.2.1 a.2.2 (tx ++ zPx l rd) else a.1 = -4 ∧ zstr 80 a.2.1 a.2.2 tx) := by
  unfold fn_Parser_appendPrinted fn_CharRow_putRow fn_CharRow_size fn_CharRow_room
  rw [(zread_1 hrd).1, if_neg (by decide : ¬ (1 : Int32) = 0)]
  obtain ⟨p1, -, p3⟩ := zfitw_P (h4.2.2 rd hrd)
  have p1' : (zPx l rd).length ≤ 320 := p1
  have p3' : ∀ c ∈ zPx l rd, 32 < c ∧ c < 127 := p3
  have er : nI 80 - nc = nI (80 - tx.length) := by rw [h1.1, nI_sub hlx]
  rw [er]
  have hcls : ∀ (qc : Int32) (qf : Nat → Int32), zstr 320 qc qf (zPx l rd) → zwp (if qc ≤ nI (80 - tx.length) then (fn_CharRow_putRow_L2 80 320 qc qf zFU nc cf 0).bind fun q => some (q.1, q.1, q.2) else some (-4, nc, cf)) (fun a => if (zPx l rd).length ≤ 80 - tx.length then a.1 = nI (tx.length + (zPx l rd).length) ∧ zstr 80 a.2.1 a.2.2 (tx ++ zPx l rd) else a.1 = -4 ∧ zstr 80 a.2.1 a.2.2 tx) := by
    intro qc qf hz
    by_cases hle : (zPx l rd).length ≤ 80 - tx.length
    · simp only [if_pos hle]
      refine zwp_t (by rw [hz.1]; exact nI_le hle (by omega)) (zwp_ret (sp_putRowl (by decide) (by decide) hz (fun c hc => by have := p3' c hc; omega) zFU 0 nc cf tx (Nat.zero_le _) (Nat.lt_of_le_of_lt (by omega : _ - 0 ≤ 320) (by decide)) h1 (by omega)) (fun r hr => ?_))
      rw [List.drop_zero] at hr
      exact ⟨by show r.1 = _; rw [hr.1, List.length_append], hr⟩
    · simp only [if_neg hle]
      exact zwp_f (by rw [hz.1]; exact nI_ge (by omega) (by omega)) (zwp_some ⟨rfl, h1⟩)
  rcases jz_rd4 hrd with rfl | rfl | rfl | rfl
  · refine zwp_f (by decide) (zwp_f (by decide) (zwp_f (by decide) ?_))
    exact hcls _ _ hp.1
  · refine zwp_t rfl ?_
    exact hcls _ _ hp.2.1
  · refine zwp_f (by decide) (zwp_t rfl ?_)
    exact hcls _ _ hp.2.2.1
  · refine zwp_f (by decide) (zwp_f (by decide) (zwp_t rfl ?_))
    exact hcls _ _ hp.2.2.2.1
/-- a variable gets a value -/
theorem c_set {v : Nat → Int32} (h1 : ∀ j, j < 26 → v j = g j) {d k : Nat} (hd : d < 26) (hk : k ≤ 2000) : zwp (fn_Parser_setVariable v (nI d) (zvk k)) (fun r => ¬ r.1 < 0 ∧ ∀ j, j < 26 → r.2 j = upd g d (zvk k) j) := by
  have hl : fn_Parser_isLetterIndex (nI d) = 1 := by
    have : ∀ d, d < 26 → fn_Parser_isLetterIndex (nI d) = 1 := by decide +kernel
    exact this d hd
  have hv : fn_Parser_isVariableValue (zvk k) = 1 := by
    obtain ⟨e, -⟩ := zvk_tab k (by omega)
    have e1 : (1000 : Int32).toInt = 1000 := by decide
    have e2 : (-1000 : Int32).toInt = -1000 := by decide
    unfold fn_Parser_isVariableValue
    rw [if_neg (by rw [Int32.lt_iff_toInt_lt]; omega), if_neg (by rw [Int32.lt_iff_toInt_lt]; omega)]
  unfold fn_Parser_setVariable
  rw [hl, hv, nI_clamp (by omega)]
  refine zwp_f (by decide) (zwp_f (by decide) (zwp_f (nI_in2 (by omega) (by omega)) ?_))
  rw [h1 d hd]
  refine zwp_ite (fun he => zwp_some ⟨(by decide : ¬ (0 : Int32) < 0), fun j hj => ?_⟩) (fun _ => zwp_f (nI_in2 (by omega) (by omega)) (zwp_some ⟨(by decide : ¬ (1 : Int32) < 0), fun j hj => ?_⟩))
  · by_cases hjd : j = d
    · rw [hjd, upd_at]; exact (h1 d hd).trans he
    · rw [upd_ne hjd]; exact h1 j hj
  · by_cases hjd : j = d
    · show upd v d (zvk k) j = _
      rw [hjd, upd_at, upd_at]
    · show upd v d (zvk k) j = _
      rw [upd_ne hjd, upd_ne hjd]; exact h1 j hj
end CO
section CH
variable {pc tc wc bc : Int32} {pk pd pl pr ph tk td tl tr th wk wd wl wr wh bk bd bl br bh : Nat → Int32} {l : List (Nat × Nat × Nat)}
theorem c_height (h4 : zfour l) (h0 : zct pc pk pd pl pr (zNd l 0)) (h1 : zct tc tk td tl tr (zNd l 1)) (h2 : zct wc wk wd wl wr (zNd l 2)) (h3 : zct bc bk bd bl br (zNd l 3)) {rd : Nat} (hrd : rd < 4) : zwp (fn_Parser_height pc pl pr ph tc tl tr th wc wl wr wh bc bl br bh (nI rd)) (fun a => a.1 = nI (jz_H (zNd l rd) (zNd l rd).length)) := by
  unfold fn_Parser_height
  rw [(zread_1 hrd).1]
  refine zwp_f (by decide) ?_
  have hok := (h4.2.2 rd hrd).1
  rcases jz_rd4 hrd with rfl | rfl | rfl | rfl
  · exact zwp_f (by decide) (zwp_f (by decide) (zwp_f (by decide) (zwp_ret (jz_sp_height h0 hok _) (fun r hr => hr))))
  · exact zwp_t rfl (zwp_ret (jz_sp_height h1 hok _) (fun r hr => hr))
  · exact zwp_f (by decide) (zwp_t rfl (zwp_ret (jz_sp_height h2 hok _) (fun r hr => hr)))
  · exact zwp_f (by decide) (zwp_f (by decide) (zwp_t rfl (zwp_ret (jz_sp_height h3 hok _) (fun r hr => hr))))
end CH
/-! The spoken text, as the law goes over it. -/
section SP
variable {pc tc wc bc : Int32} {pf tf wf bf : Nat → Int32} {P : Nat → List Nat} {rd : Nat}
theorem jz_chr {V : List Nat} {i a : Nat} (h0 : a ≠ 0) (ha : a < 128) (hV : ∀ c ∈ V, c < 128) : ((if i < V.length then nI (V.getD i 0) else (-3 : Int32)) = nI a) ↔ V.getD i 0 = a := by
  by_cases h : i < V.length
  · rw [if_pos h]
    have : V.getD i 0 < 128 := by
      rw [List.getD_eq_getElem?_getD, List.getElem?_eq_getElem h]
      exact hV _ (List.getElem_mem h)
    exact nI_inj (by omega) (by omega)
  · rw [if_neg h, List.getD_eq_getElem?_getD, List.getElem?_eq_none (by omega)]
    constructor
    · intro e
      have : ∀ a, a < 128 → ¬ (-3 : Int32) = nI a := by decide +kernel
      exact absurd e (this a ha)
    · intro e
      exact absurd e.symm h0
theorem jz_drop {V : List Nat} {j : Nat} (h : j < V.length) : V.drop j = V.getD j 0 :: V.drop (j + 1) ∧ (V.drop (j + 1)).getD 0 0 = V.getD (j + 1) 0 ∧ (V.drop (j + 1)).getD 1 0 = V.getD (j + 2) 0 := by
  refine ⟨?_, ?_, ?_⟩
  · rw [List.drop_eq_getElem_cons h, List.getD_eq_getElem?_getD, List.getElem?_eq_getElem h]; rfl
  · simp [List.getD_eq_getElem?_getD]
  · simp [List.getD_eq_getElem?_getD]
theorem jz_lit {a b : Nat} (ha : a < 128) (hb : b < 128) : nI a = nI b ↔ a = b := nI_inj (by omega) (by omega)
theorem jz_spl (hp : zsp4 pc pf tc tf wc wf bc bf P) (hrd : rd < 4) (hV : ∀ c ∈ P rd, c < 128) (hl : (P rd).length ≤ 1440) {bf' : Nat} (hbf : bf' ≠ 32) : ∀ (n j b o : Nat), j ≤ (P rd).length → (P rd).length - j < n → b < 128 → o ≤ j → (j = 0 → b = 32) → jz_run b o ((P rd).drop j) = some (bf', 0) →
    zwp (fn_Law_speaks_L37 pc pf tc tf wc wf bc bf n (nI rd) (nI (P rd).length) (nI o) (nI b) 1 (nI j)) (fun r => r = 1)
  | 0, _, _, _, _, h, _, _, _, _ => absurd h (Nat.not_lt_zero _)
  | n + 1, j, b, o, hj, hn, hb, ho, hj0, hr => by
    unfold fn_Law_speaks_L37
    by_cases h : j = (P rd).length
    · refine zwp_t (nI_le (by omega) (by omega)) ?_
      rw [h, List.drop_length] at hr
      have := Option.some.inj hr
      have e1 : b = bf' := (Prod.mk.inj this).1
      have e2 : o = 0 := (Prod.mk.inj this).2
      subst e1 e2
      unfold fn_Law_speaks_b276
      exact zwp_f (by decide) (zwp_f (fun h => hbf ((jz_lit (b := 32) hb (by decide)).mp h)) (zwp_t rfl (zwp_some rfl)))
    have hlt : j < (P rd).length := by omega
    refine zwp_f (nI_ge hlt (by omega)) (zwp_f (by decide) ?_)
    rw [c_speechChar hp hrd (by omega : j < 2 ^ 31), if_pos hlt, Option.bind_some]
    obtain ⟨d1, d2, d3⟩ := jz_drop hlt
    rw [d1] at hr
    have hc : (P rd).getD j 0 < 128 := by
      rw [List.getD_eq_getElem?_getD, List.getElem?_eq_getElem hlt]
      exact hV _ (List.getElem_mem hlt)
    generalize (P rd).getD j 0 = c at hr hc
    unfold jz_run at hr
    rw [d2, d3] at hr
    by_cases hs : jz_sg1 c = true ∧ (c ≠ 32 ∨ b ≠ 32)
    · rw [if_pos hs] at hr
      obtain ⟨hs1, hs2⟩ := hs
      have hlow : ∀ a : Nat, a < 128 → (nI c < nI a ↔ c < a) := fun a ha => nI_lti (by omega) (by omega)
      -- the rest of the loop's body
      have h118 : zwp (fn_Law_speaks_b118 pc pf tc tf wc wf bc bf (fn_Law_speaks_L37 pc pf tc tf wc wf bc bf n) (nI rd) (nI (P rd).length) (nI o) (nI b) (nI j) (nI c)) (fun r => r = 1) := by
        have hnext : ∀ (o' : Nat), o' ≤ j + 1 → jz_run c o' ((P rd).drop (j + 1)) = some (bf', 0) → zwp (fn_Law_speaks_b264 pc pf tc tf wc wf bc bf (fn_Law_speaks_L37 pc pf tc tf wc wf bc bf n) (nI rd) (nI (P rd).length) (nI o') (nI j) (nI c) 1) (fun r => r = 1) := by
          intro o' ho' hr'
          unfold fn_Law_speaks_b264
          rw [nI_add1]
          exact jz_spl hp hrd hV hl hbf n (j + 1) c o' (by omega) (by omega) hc ho' (fun h => absurd h (by omega)) hr'
        have hnn : ∀ o' : Nat, o' ≤ j + 1 → ¬ nI o' < 0 := fun o' h => nI_pos (by omega)
        have x1 : nI j + 1 = nI (j + 1) := nI_add1 j
        have x2 : nI j + 2 = nI (j + 2) := jz_addI j 2
        -- neither opened nor closed, or closed
        have h177 : ¬ (c = 112 ∧ b = 111 ∧ (P rd).getD (j + 1) 0 = 101 ∧ (P rd).getD (j + 2) 0 = 110) → zwp (fn_Law_speaks_b177 pc pf tc tf wc wf bc bf (fn_Law_speaks_L37 pc pf tc tf wc wf bc bf n) (nI rd) (nI (P rd).length) (nI o) (nI b) 1 (nI j) (nI c) 0) (fun r => r = 1) := by
          intro hno
          rw [if_neg hno] at hr
          have h225 : ¬ (c = 108 ∧ b = 99 ∧ (P rd).getD (j + 1) 0 = 111 ∧ (P rd).getD (j + 2) 0 = 115) → zwp (fn_Law_speaks_b225 pc pf tc tf wc wf bc bf (fn_Law_speaks_L37 pc pf tc tf wc wf bc bf n) (nI rd) (nI (P rd).length) (nI o) 1 (nI j) (nI c) 0) (fun r => r = 1) := by
            intro hnc
            rw [if_neg hnc] at hr
            unfold fn_Law_speaks_b225 fn_Law_speaks_b226 fn_Law_speaks_b248
            refine zwp_t rfl (zwp_t rfl (zwp_f (by decide) ?_))
            rw [show nI o + 0 = nI o from jz_addI o 0]
            exact zwp_f (hnn o (by omega)) (hnext o (by omega) hr)
          unfold fn_Law_speaks_b177
          refine zwp_ite (fun hz => ?_) (fun hz => h225 (fun h => hz (by rw [h.1]; rfl)))
          have hz := (jz_lit (b := 108) hc (by decide)).mp hz
          refine zwp_ite (fun hy => ?_) (fun hy => h225 (fun h => hy (by rw [h.2.1]; rfl)))
          have hy := (jz_lit (b := 99) hb (by decide)).mp hy
          rw [x1, c_speechChar hp hrd (by omega : j + 1 < 2 ^ 31), Option.bind_some]
          refine zwp_ite (fun hx => ?_) (fun hx => h225 (fun h => hx ((jz_chr (a := 111) (by decide) (by decide) hV).mpr h.2.2.1)))
          have hx := (jz_chr (a := 111) (by decide) (by decide) hV).mp hx
          rw [x2, c_speechChar hp hrd (by omega : j + 2 < 2 ^ 31), Option.bind_some]
          refine zwp_ite (fun hw => ?_) (fun hw => h225 (fun h => hw ((jz_chr (a := 115) (by decide) (by decide) hV).mpr h.2.2.2)))
          have hw := (jz_chr (a := 115) (by decide) (by decide) hV).mp hw
          rw [if_pos ⟨hz, hy, hx, hw⟩] at hr
          by_cases hop : 0 < o
          · rw [if_pos hop] at hr
            unfold fn_Law_speaks_b226 fn_Law_speaks_b248
            refine zwp_t rfl (zwp_f (by decide) (zwp_f (by decide) ?_))
            have e : nI o + -1 = nI (o - 1) := by
              rw [show o = (o - 1) + 1 by omega, nI_succ, Int32.add_assoc, show (1 : Int32) + -1 = 0 from rfl, Int32.add_zero]; rfl
            rw [e]
            exact zwp_f (hnn (o - 1) (by omega)) (hnext (o - 1) (by omega) hr)
          · rw [if_neg hop] at hr; cases hr
        unfold fn_Law_speaks_b118 fn_Law_speaks_b123
        have h176 : ¬ (c = 112 ∧ b = 111 ∧ (P rd).getD (j + 1) 0 = 101 ∧ (P rd).getD (j + 2) 0 = 110) → zwp (fn_Law_speaks_b176 pc pf tc tf wc wf bc bf (fn_Law_speaks_L37 pc pf tc tf wc wf bc bf n) (nI rd) (nI (P rd).length) (nI o) (nI b) 1 (nI j) (nI c)) (fun r => r = 1) := by
          intro hno
          unfold fn_Law_speaks_b176
          exact h177 hno
        refine zwp_ite (fun hz => ?_) (fun hz => h176 (fun h => hz (by rw [h.1]; rfl)))
        have hz := (jz_lit (b := 112) hc (by decide)).mp hz
        refine zwp_ite (fun hy => ?_) (fun hy => h176 (fun h => hy (by rw [h.2.1]; rfl)))
        have hy := (jz_lit (b := 111) hb (by decide)).mp hy
        refine zwp_f (fun hk => ?_) ?_
        · rw [show (0 : Int32) = nI 0 from rfl, nI_lei (by omega) (by decide)] at hk
          have := hj0 (by omega)
          omega
        rw [x1, c_speechChar hp hrd (by omega : j + 1 < 2 ^ 31), Option.bind_some]
        refine zwp_ite (fun hx => ?_) (fun hx => h176 (fun h => hx ((jz_chr (a := 101) (by decide) (by decide) hV).mpr h.2.2.1)))
        have hx := (jz_chr (a := 101) (by decide) (by decide) hV).mp hx
        rw [x2, c_speechChar hp hrd (by omega : j + 2 < 2 ^ 31), Option.bind_some]
        refine zwp_ite (fun hw => ?_) (fun hw => h176 (fun h => hw ((jz_chr (a := 110) (by decide) (by decide) hV).mpr h.2.2.2)))
        have hw := (jz_chr (a := 110) (by decide) (by decide) hV).mp hw
        rw [if_pos ⟨hz, hy, hx, hw⟩] at hr
        unfold fn_Law_speaks_b177
        refine zwp_f (fun h => ?_) ?_
        · have := (jz_lit (b := 108) hc (by decide)).mp h
          omega
        unfold fn_Law_speaks_b225 fn_Law_speaks_b226 fn_Law_speaks_b248
        refine zwp_f (by decide) (zwp_f (by decide) ?_)
        rw [nI_add1]
        exact zwp_f (hnn (o + 1) (by omega)) (hnext (o + 1) (by omega) hr)
      have h92 : zwp (fn_Law_speaks_b92 pc pf tc tf wc wf bc bf (fn_Law_speaks_L37 pc pf tc tf wc wf bc bf n) (nI rd) (nI (P rd).length) (nI o) (nI b) (nI j) (nI c)) (fun r => r = 1) := by
        unfold fn_Law_speaks_b92 fn_Law_speaks_b97
        refine zwp_f (by decide) (zwp_ite (fun hz => ?_) (fun _ => h118))
        have hz := (jz_lit (b := 32) hc (by decide)).mp hz
        refine zwp_f (fun hy => ?_) h118
        have hy := (jz_lit (b := 32) hb (by decide)).mp hy
        omega
      have hsg : c = 32 ∨ (48 ≤ c ∧ c < 58) ∨ (97 ≤ c ∧ c < 123) := by
        unfold jz_sg1 at hs1
        simp only [Bool.or_eq_true, Bool.and_eq_true, decide_eq_true_eq] at hs1
        omega
      have l48 := hlow 48 (by decide)
      have l58 := hlow 58 (by decide)
      have l97 := hlow 97 (by decide)
      refine zwp_ite (fun _ => h92) (fun hz => ?_)
      have hz : ¬ c = 32 := fun h => hz (by rw [h]; rfl)
      refine zwp_f (fun h => by have := l48.mp h; omega) (zwp_ite (fun _ => h92) (fun hy => ?_))
      have hy : ¬ c < 58 := fun h => hy (l58.mpr h)
      unfold fn_Law_speaks_b78
      refine zwp_f (fun h => by have := l97.mp h; omega) (zwp_f (fun h => ?_) h92)
      have := (nI_lei (a := 123) (b := c) (by decide) (by omega)).mp h
      omega
    · rw [if_neg hs] at hr; cases hr
theorem jz_speaks (hp : zsp4 pc pf tc tf wc wf bc bf P) (hrd : rd < 4) (hV : ∀ c ∈ P rd, c < 128) (hl : (P rd).length ≤ 1440) (h0 : 0 < (P rd).length) {b : Nat} (hb : b ≠ 32) (hr : jz_run 32 0 (P rd) = some (b, 0)) : zwp (fn_Law_speaks pc pf tc tf wc wf bc bf (nI rd)) (fun r => r = 1) := by
  unfold fn_Law_speaks
  rw [c_speechLen hp hrd]
  refine zwp_f (nI_ge (a := 0) h0 (by omega)) ?_
  rw [c_speechChar hp hrd (by omega : (P rd).length < 2 ^ 31), if_neg (Nat.lt_irrefl _), Option.bind_some]
  refine zwp_t rfl ?_
  unfold fn_Law_speaks_b32
  exact jz_spl hp hrd hV hl hb zFU 0 32 0 (Nat.zero_le _) (Nat.lt_of_le_of_lt (by omega : (P rd).length - 0 ≤ 1440) (by decide)) (by decide) (Nat.le_refl _) (fun _ => rfl) (by rw [List.drop_zero]; exact hr)
end SP
