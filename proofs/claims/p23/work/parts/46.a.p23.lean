/-! Texts made of items: what their tokens are. -/
/-- an item's characters: a token (kind, detail), or a blank (0, 0) -/
def jz_ch (q : Nat × Nat) : List Nat := if q.1 = 0 then [32] else if q.1 = 1 then [48 + q.2] else if q.1 = 2 then [97 + q.2] else if q.1 = 22 then [40] else if q.1 = 23 then [41] else if q.1 = 24 then [39] else zsym q.1
def jz_it (q : Nat × Nat) : Prop := (q.1 = 0 ∧ q.2 = 0) ∨ (q.1 = 1 ∧ q.2 < 10) ∨ (q.1 = 2 ∧ 22 ≤ q.2 ∧ q.2 < 26) ∨ (3 ≤ q.1 ∧ q.1 ≤ 6 ∧ q.2 = 0) ∨ ((7 ≤ q.1 ∧ q.1 ≤ 11 ∨ 22 ≤ q.1 ∧ q.1 ≤ 24) ∧ q.2 = 0)
def jz_txt : List (Nat × Nat) → List Nat
  | [] => []
  | q :: l => jz_ch q ++ jz_txt l
/-- no digit right behind a digit -/
def jz_dd : List (Nat × Nat) → Prop
  | [] => True
  | q :: l => (q.1 = 1 → ∀ r l', l = r :: l' → r.1 ≠ 1) ∧ jz_dd l
/-- the tokens among them -/
def jz_tk (l : List (Nat × Nat)) : List (Nat × Nat) := l.filter (fun q => decide (q.1 ≠ 0))
def jz_pr (q : Nat × Nat × Nat) : Nat × Nat := (q.1, q.2.1)
/-- a text's tokens without their places -/
def jz_pt (s : List Nat) : List (Nat × Nat) := (ztoks (s.length + 1) 0 s).map jz_pr
theorem jz_fuel : ∀ (f g p p' : Nat) (s : List Nat), s.length < f → s.length < g → (∀ c ∈ s, c < 127) → (ztoks f p s).map jz_pr = (ztoks g p' s).map jz_pr
  | 0, _, _, _, _, h, _, _ => absurd h (Nat.not_lt_zero _)
  | _ + 1, 0, _, _, _, _, h, _ => absurd h (Nat.not_lt_zero _)
  | f + 1, g + 1, p, p', [], _, _, _ => rfl
  | f + 1, g + 1, p, p', c :: t, hf, hg, hc => by
    simp only [List.length_cons] at hf hg
    unfold ztoks
    by_cases h : c = 32
    · rw [if_pos h, if_pos h]
      exact jz_fuel f g _ _ t (by omega) (by omega) (fun x hx => hc x (by simp [hx]))
    · rw [if_neg h, if_neg h]
      have hw := ztok_w (c := c) (t := t) (hc c (by simp))
      simp only [List.map_cons]
      rw [jz_fuel f g _ (p' + (ztok (c :: t)).2.2) ((c :: t).drop (ztok (c :: t)).2.2) (by rw [List.length_drop]; simp only [List.length_cons]; omega) (by rw [List.length_drop]; simp only [List.length_cons]; omega) (fun x hx => hc x (List.mem_of_mem_drop hx))]
      rfl
theorem jz_pt_nil : jz_pt [] = [] := rfl
theorem jz_pt_bl {t : List Nat} (hc : ∀ c ∈ t, c < 127) : jz_pt (32 :: t) = jz_pt t := by
  unfold jz_pt
  rw [List.length_cons, ztoks, if_pos rfl]
  exact jz_fuel (t.length + 1) (t.length + 1) _ _ t (by omega) (by omega) hc
theorem jz_pt_tok {c : Nat} {t : List Nat} (h : c ≠ 32) (hc : ∀ x ∈ c :: t, x < 127) : jz_pt (c :: t) = ((ztok (c :: t)).1, (ztok (c :: t)).2.1) :: jz_pt ((c :: t).drop (ztok (c :: t)).2.2) := by
  unfold jz_pt
  have hw := ztok_w (c := c) (t := t) (hc c (by simp))
  rw [List.length_cons]
  rw [ztoks, if_neg h, List.map_cons]
  rw [jz_fuel (t.length + 1) (((c :: t).drop (ztok (c :: t)).2.2).length + 1) _ 0 ((c :: t).drop (ztok (c :: t)).2.2) (by rw [List.length_drop]; simp only [List.length_cons]; omega) (by omega) (fun x hx => hc x (List.mem_of_mem_drop hx))]
  rfl
theorem jz_sym3 : zsym 3 = [97, 98, 115] ∧ zsym 4 = [115, 103, 110] ∧ zsym 5 = [115, 113, 114] ∧ zsym 6 = [100, 98, 108] := by decide +kernel
theorem jz_sym7 : zsym 7 = [43] ∧ zsym 8 = [45] ∧ zsym 9 = [42] ∧ zsym 10 = [47] ∧ zsym 11 = [94] ∧ zsym 12 = [42] := by decide +kernel
theorem jz_sgn : ∀ c ∈ [39, 40, 41, 42, 43, 45, 47, 94], ∀ b, b < 127 → zpair c b = 0 := by decide +kernel
theorem jz_sgk : zsign 39 = 24 ∧ zsign 40 = 22 ∧ zsign 41 = 23 ∧ zsign 42 = 9 ∧ zsign 43 = 7 ∧ zsign 45 = 8 ∧ zsign 47 = 10 ∧ zsign 94 = 11 := by decide +kernel
/-- one sign -/
theorem jz_pt_s {c k : Nat} {t : List Nat} (hm : c ∈ [39, 40, 41, 42, 43, 45, 47, 94]) (hk : zsign c = k) (hc : ∀ x ∈ t, x < 127) : jz_pt (c :: t) = (k, 0) :: jz_pt t := by
  have h : c < 127 ∧ c ≠ 32 ∧ ¬ zdg c = true ∧ ¬ (97 ≤ c ∧ c ≤ 122) := by
    have : ∀ c ∈ [39, 40, 41, 42, 43, 45, 47, 94], c < 127 ∧ c ≠ 32 ∧ ¬ zdg c = true ∧ ¬ (97 ≤ c ∧ c ≤ 122) := by decide
    exact this c hm
  have hall : ∀ x ∈ c :: t, x < 127 := fun x hx => by
    rcases List.mem_cons.mp hx with rfl | h1
    · exact h.1
    · exact hc x h1
  have hb : t.getD 0 0 < 127 := by
    cases t with
    | nil => decide
    | cons a t => exact hc a (by simp)
  rw [jz_pt_tok h.2.1 hall, ztok_s h.2.2.1 h.2.2.2 (jz_sgn c hm _ hb), hk]
  rfl
/-- one late letter -/
theorem jz_pt_v {d : Nat} {t : List Nat} (h1 : 22 ≤ d) (h2 : d < 26) (hc : ∀ x ∈ t, x < 127) : jz_pt ((97 + d) :: t) = (2, d) :: jz_pt t := by
  have hall : ∀ x ∈ (97 + d) :: t, x < 127 := fun x hx => by
    rcases List.mem_cons.mp hx with rfl | h3
    · omega
    · exact hc x h3
  have hg : ¬ zdg (97 + d) = true := by unfold zdg; simp; omega
  have hf : zfun ((97 + d) :: t) = 0 := by
    unfold zfun
    have h : ∀ (a : Nat) (l : List Nat), a < 119 → (97 + d) :: t.take 2 ≠ a :: l := fun a l ha e => by
      have := (List.cons.inj e).1; omega
    rw [List.take_succ_cons, if_neg (h _ _ (by omega)), if_neg (h _ _ (by omega)), if_neg (h _ _ (by omega)), if_neg (h _ _ (by omega))]
  rw [jz_pt_tok (by omega) hall, ztok_v hg (by omega) hf]
  rw [show 97 + d - 97 = d by omega]
  rfl
/-- one digit -/
theorem jz_pt_d {d : Nat} {t : List Nat} (h1 : d < 10) (hc : ∀ x ∈ t, x < 127) (hn : ∀ a t', t = a :: t' → ¬ zdg a = true) : jz_pt ((48 + d) :: t) = (1, d) :: jz_pt t := by
  have hall : ∀ x ∈ (48 + d) :: t, x < 127 := fun x hx => by
    rcases List.mem_cons.mp hx with rfl | h3
    · omega
    · exact hc x h3
  have hg : zdg (48 + d) = true := by unfold zdg; simp; omega
  have hr : zrun ((48 + d) :: t) = 1 := by
    unfold zrun; rw [if_pos hg]
    cases t with
    | nil => rfl
    | cons a t' => unfold zrun; rw [if_neg (hn a t' rfl)]
  have hv : zval 0 0 ((48 + d) :: t) = d := by
    unfold zval; rw [if_pos hg, if_pos (by omega)]
    rw [show 10 * 0 + (48 + d - 48) = d by omega]
    cases t with
    | nil => rfl
    | cons a t' => unfold zval; rw [if_neg (hn a t' rfl)]
  rw [jz_pt_tok (by omega) hall, ztok_d hg, hr, hv]
  rfl
/-- a function's name -/
theorem jz_pt_f {k : Nat} {t : List Nat} (h1 : 3 ≤ k) (h2 : k ≤ 6) (hc : ∀ x ∈ t, x < 127) : jz_pt (zsym k ++ t) = (k, 0) :: jz_pt t := by
  obtain ⟨s3, s4, s5, s6⟩ := jz_sym3
  have h : ∀ a b c : Nat, zsym k = [a, b, c] → a < 127 → b < 127 → c < 127 → a ≠ 32 → ¬ zdg a = true → (97 ≤ a ∧ a ≤ 122) → zfun (a :: b :: c :: t) = k → jz_pt (zsym k ++ t) = (k, 0) :: jz_pt t := by
    intro a b c e ha hb hc' h32 hg hl hf
    rw [e]
    have hall : ∀ x ∈ a :: b :: c :: t, x < 127 := fun x hx => by
      simp only [List.mem_cons] at hx
      rcases hx with rfl | rfl | rfl | h3
      · exact ha
      · exact hb
      · exact hc'
      · exact hc x h3
    show jz_pt (a :: b :: c :: t) = _
    rw [jz_pt_tok h32 hall, ztok_f hg hl (by rw [hf]; omega), hf]
    rfl
  have hk : k = 3 ∨ k = 4 ∨ k = 5 ∨ k = 6 := by omega
  rcases hk with rfl | rfl | rfl | rfl
  · exact h _ _ _ s3 (by decide) (by decide) (by decide) (by decide) (by decide) (by decide) rfl
  · exact h _ _ _ s4 (by decide) (by decide) (by decide) (by decide) (by decide) (by decide) rfl
  · exact h _ _ _ s5 (by decide) (by decide) (by decide) (by decide) (by decide) (by decide) rfl
  · exact h _ _ _ s6 (by decide) (by decide) (by decide) (by decide) (by decide) (by decide) rfl
theorem jz_ch_7 : ∀ k, 7 ≤ k → k ≤ 11 → ∃ c, zsym k = [c] ∧ c ∈ [39, 40, 41, 42, 43, 45, 47, 94] ∧ zsign c = k := by
  intro k h1 h2
  obtain ⟨s7, s8, s9, s10, s11, -⟩ := jz_sym7
  obtain ⟨-, -, -, g9, g7, g8, g10, g11⟩ := jz_sgk
  have hk : k = 7 ∨ k = 8 ∨ k = 9 ∨ k = 10 ∨ k = 11 := by omega
  rcases hk with rfl | rfl | rfl | rfl | rfl
  · exact ⟨_, s7, by decide, g7⟩
  · exact ⟨_, s8, by decide, g8⟩
  · exact ⟨_, s9, by decide, g9⟩
  · exact ⟨_, s10, by decide, g10⟩
  · exact ⟨_, s11, by decide, g11⟩
/-- an item that is a sign: its one character -/
theorem jz_ch_s {q : Nat × Nat} (h : 7 ≤ q.1 ∧ q.1 ≤ 11 ∨ 22 ≤ q.1 ∧ q.1 ≤ 24) : ∃ c, jz_ch q = [c] ∧ c ∈ [39, 40, 41, 42, 43, 45, 47, 94] ∧ zsign c = q.1 := by
  obtain ⟨g39, g40, g41, -⟩ := jz_sgk
  unfold jz_ch
  rcases h with h | h
  · rw [if_neg (by omega), if_neg (by omega), if_neg (by omega), if_neg (by omega), if_neg (by omega), if_neg (by omega)]
    exact jz_ch_7 q.1 h.1 h.2
  · have hk : q.1 = 22 ∨ q.1 = 23 ∨ q.1 = 24 := by omega
    rcases hk with hk | hk | hk <;> rw [hk]
    · exact ⟨40, rfl, by decide, g40⟩
    · exact ⟨41, rfl, by decide, g41⟩
    · exact ⟨39, rfl, by decide, g39⟩
theorem jz_ch_f {q : Nat × Nat} (h1 : 3 ≤ q.1) (h2 : q.1 ≤ 6) : jz_ch q = zsym q.1 := by
  unfold jz_ch
  rw [if_neg (by omega), if_neg (by omega), if_neg (by omega), if_neg (by omega), if_neg (by omega), if_neg (by omega)]
/-- what an item's characters are -/
theorem jz_ch_ok {q : Nat × Nat} (h : jz_it q) : (∀ c ∈ jz_ch q, 32 ≤ c ∧ c < 127) ∧ 1 ≤ (jz_ch q).length ∧ (q.1 ≠ 1 → ∀ a t, jz_ch q = a :: t → ¬ zdg a = true) := by
  rcases h with ⟨h1, h2⟩ | ⟨h1, h2⟩ | ⟨h1, h2, h3⟩ | ⟨h1, h2, -⟩ | ⟨h1, h2⟩
  · have e : jz_ch q = [32] := by unfold jz_ch; rw [if_pos h1]
    rw [e]
    exact ⟨by simp, by simp, fun _ a t e => by rw [← (List.cons.inj e).1]; decide⟩
  · have e : jz_ch q = [48 + q.2] := by unfold jz_ch; rw [if_neg (by omega), if_pos h1]
    rw [e]
    exact ⟨by simp; omega, by simp, fun h => absurd h1 h⟩
  · have e : jz_ch q = [97 + q.2] := by unfold jz_ch; rw [if_neg (by omega), if_neg (by omega), if_pos h1]
    rw [e]
    refine ⟨by simp; omega, by simp, fun _ a t e => ?_⟩
    rw [← (List.cons.inj e).1]; unfold zdg; simp; omega
  · rw [jz_ch_f h1 h2]
    obtain ⟨s3, s4, s5, s6⟩ := jz_sym3
    have hk : q.1 = 3 ∨ q.1 = 4 ∨ q.1 = 5 ∨ q.1 = 6 := by omega
    rcases hk with hk | hk | hk | hk <;> rw [hk]
    · rw [s3]; exact ⟨by decide, by decide, fun _ a t e => by rw [← (List.cons.inj e).1]; decide⟩
    · rw [s4]; exact ⟨by decide, by decide, fun _ a t e => by rw [← (List.cons.inj e).1]; decide⟩
    · rw [s5]; exact ⟨by decide, by decide, fun _ a t e => by rw [← (List.cons.inj e).1]; decide⟩
    · rw [s6]; exact ⟨by decide, by decide, fun _ a t e => by rw [← (List.cons.inj e).1]; decide⟩
  · obtain ⟨c, e, hm, -⟩ := jz_ch_s (q := q) h1
    have hc : ∀ c ∈ [39, 40, 41, 42, 43, 45, 47, 94], (32 ≤ c ∧ c < 127) ∧ ¬ zdg c = true := by decide
    rw [e]
    refine ⟨fun x hx => ?_, by simp, fun _ a t e => ?_⟩
    · rw [List.mem_singleton.mp hx]; exact (hc c hm).1
    · rw [← (List.cons.inj e).1]; exact (hc c hm).2
theorem jz_txt_app : ∀ a b : List (Nat × Nat), jz_txt (a ++ b) = jz_txt a ++ jz_txt b
  | [], _ => rfl
  | q :: a, b => by
    show jz_ch q ++ jz_txt (a ++ b) = (jz_ch q ++ jz_txt a) ++ jz_txt b
    rw [jz_txt_app a b, List.append_assoc]
theorem jz_txt_ok : ∀ l : List (Nat × Nat), (∀ q ∈ l, jz_it q) → ∀ c ∈ jz_txt l, 32 ≤ c ∧ c < 127
  | [], _, c, h => by cases h
  | q :: l, hi, c, h => by
    rcases List.mem_append.mp h with h1 | h1
    · exact (jz_ch_ok (hi q (by simp))).1 c h1
    · exact jz_txt_ok l (fun x hx => hi x (by simp [hx])) c h1
/-- the tokens of a text of items -/
theorem jz_tokens : ∀ l : List (Nat × Nat), (∀ q ∈ l, jz_it q) → jz_dd l → jz_pt (jz_txt l) = jz_tk l
  | [], _, _ => rfl
  | q :: l, hi, hd => by
    have hl := jz_txt_ok l (fun x hx => hi x (by simp [hx]))
    have hc : ∀ c ∈ jz_txt l, c < 127 := fun c h => (hl c h).2
    have ih := jz_tokens l (fun x hx => hi x (by simp [hx])) hd.2
    have hq := hi q (by simp)
    have hkeep : q.1 ≠ 0 → jz_tk (q :: l) = q :: jz_tk l := fun h => by
      unfold jz_tk
      rw [List.filter_cons_of_pos (by simp [h])]
    show jz_pt (jz_ch q ++ jz_txt l) = _
    rcases hq with ⟨h1, h2⟩ | ⟨h1, h2⟩ | ⟨h1, h2, h3⟩ | ⟨h1, h2, h3⟩ | ⟨h1, h2⟩
    · have e : jz_ch q = [32] := by unfold jz_ch; rw [if_pos h1]
      rw [e]
      show jz_pt (32 :: jz_txt l) = _
      rw [jz_pt_bl hc, ih]
      unfold jz_tk
      rw [List.filter_cons_of_neg (by simp [h1])]
    · have e : jz_ch q = [48 + q.2] := by unfold jz_ch; rw [if_neg (by omega), if_pos h1]
      rw [e, hkeep (by omega)]
      show jz_pt ((48 + q.2) :: jz_txt l) = _
      rw [jz_pt_d h2 hc, ih, ← h1]
      intro a t' e'
      cases l with
      | nil => cases e'
      | cons r l' =>
        have hr := hd.1 h1 r l' rfl
        obtain ⟨-, k1, k2⟩ := jz_ch_ok (hi r (by simp))
        change jz_ch r ++ jz_txt l' = a :: t' at e'
        cases hcr : jz_ch r with
        | nil => rw [hcr] at k1; simp at k1
        | cons a' t2 =>
          rw [hcr] at e'
          rw [← (List.cons.inj e').1]
          exact k2 hr a' t2 hcr
    · have e : jz_ch q = [97 + q.2] := by unfold jz_ch; rw [if_neg (by omega), if_neg (by omega), if_pos h1]
      rw [e, hkeep (by omega)]
      show jz_pt ((97 + q.2) :: jz_txt l) = _
      rw [jz_pt_v h2 h3 hc, ih, ← h1]
    · rw [jz_ch_f h1 h2, hkeep (by omega), jz_pt_f h1 h2 hc, ih, ← h3]
    · obtain ⟨c, e, hm, hs⟩ := jz_ch_s (q := q) h1
      rw [e, hkeep (by omega)]
      show jz_pt (c :: jz_txt l) = _
      rw [jz_pt_s hm hs hc, ih, ← h2]
/-! A printed tree, read back. -/
def jz_k (k : Nat) : Nat := if k = 12 then 9 else k
/-- a juxtaposition comes back as a product -/
def jz_n (q : Nat × Nat × Nat × Nat) : Nat × Nat × Nat × Nat := (jz_k q.1, q.2)
def jz_lf (nd : List (Nat × Nat × Nat × Nat)) (i : Nat) : Prop := ∃ q, nd[i]? = some q ∧ q.1 ≤ 2
/-- the nodes from s on to i are the tree whose root is i, in the order of their making -/
def jz_sg (nd : List (Nat × Nat × Nat × Nat)) : Nat → Nat → Nat → Prop
  | 0, _, _ => False
  | f + 1, s, i => ∃ q, nd[i]? = some q ∧
      (((q.1 = 1 ∧ q.2.1 < 10 ∨ q.1 = 2 ∧ 22 ≤ q.2.1 ∧ q.2.1 < 26) ∧ s = i ∧ q.2.2 = (0, 0)) ∨
       ((3 ≤ q.1 ∧ q.1 ≤ 6 ∧ q.2.1 ≤ 3 ∨ q.1 = 13 ∧ q.2.1 = 0) ∧ q.2.2.2 = 0 ∧ q.2.2.1 + 1 = i ∧ jz_sg nd f s q.2.2.1) ∨
       ((7 ≤ q.1 ∧ q.1 ≤ 12) ∧ q.2.1 = 0 ∧ q.2.2.2 + 1 = i ∧ jz_sg nd f s q.2.2.1 ∧ jz_sg nd f (q.2.2.1 + 1) q.2.2.2 ∧ (q.1 = 11 → jz_lf nd q.2.2.1)))
/-- a printed node's tokens -/
def jz_tl (nd : List (Nat × Nat × Nat × Nat)) : Nat → Nat → List (Nat × Nat)
  | 0, _ => []
  | f + 1, i => match nd[i]? with
    | none => []
    | some q => if q.1 ≤ 2 then [(q.1, q.2.1)] else if q.1 ≤ 6 then (q.1, 0) :: (List.replicate q.2.1 (24, 0) ++ ((22, 0) :: (jz_tl nd f q.2.2.1 ++ [(23, 0)])))
      else if q.1 = 13 then (22, 0) :: (8, 0) :: (jz_tl nd f q.2.2.1 ++ [(23, 0)]) else (22, 0) :: (jz_tl nd f q.2.2.1 ++ ((jz_k q.1, 0) :: (jz_tl nd f q.2.2.2 ++ [(23, 0)])))
theorem jz_sg_le {nd : List (Nat × Nat × Nat × Nat)} : ∀ (f s i : Nat), jz_sg nd f s i → s ≤ i ∧ i < nd.length
  | 0, _, _, h => h.elim
  | f + 1, s, i, h => by
    obtain ⟨q, hq, h⟩ := h
    have hi := (List.getElem?_eq_some_iff.mp hq).1
    rcases h with ⟨-, h, -⟩ | ⟨-, -, h1, h2⟩ | ⟨-, -, h1, h2, h3, -⟩
    · exact ⟨by omega, hi⟩
    · have := jz_sg_le f _ _ h2; exact ⟨by omega, hi⟩
    · have := jz_sg_le f _ _ h2
      have := jz_sg_le f _ _ h3
      exact ⟨by omega, hi⟩
theorem jz_sg_mono {nd : List (Nat × Nat × Nat × Nat)} : ∀ (f g s i : Nat), f ≤ g → jz_sg nd f s i → jz_sg nd g s i
  | 0, _, _, _, _, h => h.elim
  | _ + 1, 0, _, _, h, _ => absurd h (by omega)
  | f + 1, g + 1, s, i, hfg, h => by
    obtain ⟨q, hq, h⟩ := h
    refine ⟨q, hq, ?_⟩
    rcases h with h | ⟨a, b, c, h⟩ | ⟨a, b, c, h, h', e⟩
    · exact Or.inl h
    · exact Or.inr (Or.inl ⟨a, b, c, jz_sg_mono f g _ _ (by omega) h⟩)
    · exact Or.inr (Or.inr ⟨a, b, c, jz_sg_mono f g _ _ (by omega) h, jz_sg_mono f g _ _ (by omega) h', e⟩)
theorem jz_get_app {nd X : List (Nat × Nat × Nat × Nat)} {i : Nat} {q : Nat × Nat × Nat × Nat} (h : nd[i]? = some q) : (nd ++ X)[i]? = some q := by
  rw [List.getElem?_append_left (List.getElem?_eq_some_iff.mp h).1, h]
theorem jz_lf_app {nd X : List (Nat × Nat × Nat × Nat)} {i : Nat} (h : jz_lf nd i) : jz_lf (nd ++ X) i := by
  obtain ⟨q, h1, h2⟩ := h
  exact ⟨q, jz_get_app h1, h2⟩
theorem jz_sg_app {nd X : List (Nat × Nat × Nat × Nat)} : ∀ (f s i : Nat), jz_sg nd f s i → jz_sg (nd ++ X) f s i
  | 0, _, _, h => h.elim
  | f + 1, s, i, h => by
    obtain ⟨q, hq, h⟩ := h
    refine ⟨q, jz_get_app hq, ?_⟩
    rcases h with h | ⟨a, b, c, h⟩ | ⟨a, b, c, h, h', e⟩
    · exact Or.inl h
    · exact Or.inr (Or.inl ⟨a, b, c, jz_sg_app f _ _ h⟩)
    · exact Or.inr (Or.inr ⟨a, b, c, jz_sg_app f _ _ h, jz_sg_app f _ _ h', fun e1 => jz_lf_app (e e1)⟩)
theorem jz_dd_app : ∀ a b : List (Nat × Nat), jz_dd a → jz_dd b → (∀ r l, b = r :: l → r.1 ≠ 1) → jz_dd (a ++ b)
  | [], _, _, h, _ => h
  | q :: a, b, ha, hb, hr => by
    refine ⟨fun h1 r l' e => ?_, jz_dd_app a b ha.2 hb hr⟩
    cases a with
    | nil => exact hr r l' e
    | cons x a' => exact ha.1 h1 r (a') (by rw [← (List.cons.inj e).1])
theorem jz_dd_cons {q : Nat × Nat} {l : List (Nat × Nat)} (h : q.1 ≠ 1) (hl : jz_dd l) : jz_dd (q :: l) := ⟨fun h1 => absurd h1 h, hl⟩
theorem jz_dd_rep {q : Nat × Nat} (h : q.1 ≠ 1) {l : List (Nat × Nat)} (hl : jz_dd l) : ∀ n, jz_dd (List.replicate n q ++ l)
  | 0 => by simpa using hl
  | n + 1 => by
    rw [List.replicate_succ]
    exact jz_dd_cons h (jz_dd_rep h hl n)
theorem jz_txt_rep : ∀ n, jz_txt (List.replicate n (24, 0)) = List.replicate n 39
  | 0 => rfl
  | n + 1 => by
    rw [List.replicate_succ, List.replicate_succ]
    show jz_ch (24, 0) ++ _ = _
    rw [jz_txt_rep n]; rfl
theorem jz_k_op {k : Nat} (h : 7 ≤ k ∧ k ≤ 12) : 7 ≤ jz_k k ∧ jz_k k ≤ 11 ∧ zsym (jz_k k) = zsym k := by
  unfold jz_k
  by_cases h1 : k = 12
  · rw [if_pos h1, h1]
    obtain ⟨-, -, a, -, -, b⟩ := jz_sym7
    exact ⟨by omega, by omega, a.trans b.symm⟩
  · rw [if_neg h1]; exact ⟨h.1, by omega, rfl⟩
theorem jz_digs {d : Nat} (h : d < 10) : zdigs d = [48 + d] := by
  unfold zdigs
  rw [if_neg (by omega), if_neg (by omega), if_neg (by omega), if_neg (by omega), if_neg (by omega), show d % 10 = d by omega]
theorem jz_ch_op {k : Nat} (h : 7 ≤ k ∧ k ≤ 11) : jz_ch (k, 0) = zsym k := by
  unfold jz_ch
  rw [if_neg (by show k ≠ 0; omega), if_neg (by show k ≠ 1; omega), if_neg (by show k ≠ 2; omega), if_neg (by show k ≠ 22; omega), if_neg (by show k ≠ 23; omega), if_neg (by show k ≠ 24; omega)]
/-- a printed node is the text of its tokens -/
theorem jz_prt {nd : List (Nat × Nat × Nat × Nat)} : ∀ (f s i : Nat), jz_sg nd f s i → jz_txt (jz_tl nd f i) = zpr nd f i ∧ (∀ q ∈ jz_tl nd f i, jz_it q) ∧ jz_dd (jz_tl nd f i)
  | 0, _, _, h => h.elim
  | f + 1, s, i, h => by
    obtain ⟨⟨k, d, a, c⟩, hq, h⟩ := h
    have h23 : jz_it (23, 0) := Or.inr (Or.inr (Or.inr (Or.inr ⟨Or.inr ⟨by decide, by decide⟩, rfl⟩)))
    have h22 : jz_it (22, 0) := Or.inr (Or.inr (Or.inr (Or.inr ⟨Or.inr ⟨by decide, by decide⟩, rfl⟩)))
    have h24 : jz_it (24, 0) := Or.inr (Or.inr (Or.inr (Or.inr ⟨Or.inr ⟨by decide, by decide⟩, rfl⟩)))
    have hc1 : jz_txt [(23, 0)] = [41] := rfl
    have hd1 : jz_dd [(23, 0)] := jz_dd_cons (by decide) trivial
    have ho : ∀ l : List (Nat × Nat), jz_txt ((22, 0) :: l) = 40 :: jz_txt l := fun _ => rfl
    unfold jz_tl zpr
    rw [hq]
    dsimp only at h ⊢
    rcases h with ⟨h1, h2, h3⟩ | ⟨h1, h2, h3, h4⟩ | ⟨h1, h2, h3, h4, h5, h6⟩
    · rw [if_pos (by omega)]
      rcases h1 with ⟨h1, h1'⟩ | ⟨h1, h1', h1''⟩
      · rw [if_pos h1, jz_digs h1', h1]
        exact ⟨rfl, fun q hq => by rw [List.mem_singleton.mp hq]; exact Or.inr (Or.inl ⟨rfl, h1'⟩), ⟨(fun _ r l e => by cases e), trivial⟩⟩
      · rw [if_neg (by omega), if_pos h1, h1]
        exact ⟨rfl, fun q hq => by rw [List.mem_singleton.mp hq]; exact Or.inr (Or.inr (Or.inl ⟨rfl, h1', h1''⟩)), jz_dd_cons (by show (2 : Nat) ≠ 1; decide) trivial⟩
    · obtain ⟨i1, i2, i3⟩ := jz_prt f s a h4
      rw [if_neg (by omega), if_neg (by omega : ¬ k = 1), if_neg (by omega : ¬ k = 2)]
      have hb : jz_dd (jz_tl nd f a ++ [(23, 0)]) := jz_dd_app _ _ i3 hd1 (fun r l e => by rw [← (List.cons.inj e).1]; decide)
      by_cases h6 : k ≤ 6
      · rw [if_pos h6, if_pos h6]
        refine ⟨?_, ?_, ?_⟩
        · show jz_ch (k, 0) ++ jz_txt (List.replicate d (24, 0) ++ ((22, 0) :: (jz_tl nd f a ++ [(23, 0)]))) = _
          rw [jz_ch_f (q := (k, 0)) (by show 3 ≤ k; omega) h6, jz_txt_app, jz_txt_rep, ho, jz_txt_app, i1, hc1]
          simp
        · intro q hq
          simp only [List.mem_cons, List.mem_append, List.mem_replicate] at hq
          rcases hq with rfl | ⟨-, rfl⟩ | rfl | hq | hq | hq
          · exact Or.inr (Or.inr (Or.inr (Or.inl ⟨by show 3 ≤ k; omega, h6, rfl⟩)))
          · exact h24
          · exact h22
          · exact i2 q hq
          · rw [hq]; exact h23
          · cases hq
        · exact jz_dd_cons (by show k ≠ 1; omega) (jz_dd_rep (by decide) (jz_dd_cons (by decide) hb) d)
      · rw [if_neg h6, if_neg h6, if_pos (by omega), if_pos (by omega)]
        refine ⟨?_, ?_, ?_⟩
        · rw [ho]
          show 40 :: (jz_ch (8, 0) ++ jz_txt (jz_tl nd f a ++ [(23, 0)])) = _
          rw [jz_ch_op (by decide), jz_txt_app, i1, hc1, jz_sym7.2.1]
          rfl
        · intro q hq
          simp only [List.mem_cons, List.mem_append] at hq
          rcases hq with rfl | rfl | hq | hq | hq
          · exact h22
          · exact Or.inr (Or.inr (Or.inr (Or.inr ⟨Or.inl ⟨by decide, by decide⟩, rfl⟩)))
          · exact i2 q hq
          · rw [hq]; exact h23
          · cases hq
        · exact jz_dd_cons (by decide) (jz_dd_cons (by decide) hb)
    · obtain ⟨i1, i2, i3⟩ := jz_prt f s a h4
      obtain ⟨r1, r2, r3⟩ := jz_prt f _ c h5
      obtain ⟨k1, k2, k3⟩ := jz_k_op h1
      have hb : jz_dd (jz_tl nd f c ++ [(23, 0)]) := jz_dd_app _ _ r3 hd1 (fun r l e => by rw [← (List.cons.inj e).1]; decide)
      rw [if_neg (by omega), if_neg (by omega), if_neg (by omega), if_neg (by omega : ¬ k = 1), if_neg (by omega : ¬ k = 2), if_neg (by omega), if_neg (by omega)]
      refine ⟨?_, ?_, ?_⟩
      · rw [ho, jz_txt_app, i1]
        show 40 :: (zpr nd f a ++ (jz_ch (jz_k k, 0) ++ jz_txt (jz_tl nd f c ++ [(23, 0)]))) = _
        rw [jz_ch_op ⟨k1, k2⟩, k3, jz_txt_app, r1, hc1]
        rfl
      · intro q hq
        simp only [List.mem_cons, List.mem_append] at hq
        rcases hq with rfl | hq | rfl | hq | hq | hq
        · exact h22
        · exact i2 q hq
        · exact Or.inr (Or.inr (Or.inr (Or.inr ⟨Or.inl ⟨k1, k2⟩, rfl⟩)))
        · exact r2 q hq
        · rw [hq]; exact h23
        · cases hq
      · exact jz_dd_cons (by decide) (jz_dd_app _ _ i3 (jz_dd_cons (by show jz_k k ≠ 1; omega) hb) (fun r l e => by rw [← (List.cons.inj e).1]; show jz_k k ≠ 1; omega))
/-! The builder reads a printed tree. -/
def jz_li (l : List (Nat × Nat)) : List (Nat × Nat × Nat) := l.map (fun q => (q.1, q.2, 0))
/-- tokens take the checker from s to s', the builder from b to b' -/
def jz_st (t w : Bool) (s : Nat × Nat × Nat × Nat × Nat) (b : zBt) (l : List (Nat × Nat)) (s' : Nat × Nat × Nat × Nat × Nat) (b' : zBt) : Prop := zgo s (jz_li l) = some s' ∧ zbgo t w s b (jz_li l) = b'
theorem jz_st_nil {t w : Bool} {s : Nat × Nat × Nat × Nat × Nat} {b : zBt} : jz_st t w s b [] s b := ⟨rfl, rfl⟩
theorem jz_st_cons {t w : Bool} {s s1 s2 : Nat × Nat × Nat × Nat × Nat} {b b2 : zBt} {k d : Nat} {l : List (Nat × Nat)} (h : zsy s k = some s1) (h2 : jz_st t w s1 (ztk t w (decide (s.1 = 3)) k d b.1 b.2.1 b.2.2.1 b.2.2.2.1 b.2.2.2.2) l s2 b2) : jz_st t w s b ((k, d) :: l) s2 b2 := by
  obtain ⟨h3, h4⟩ := h2
  refine ⟨?_, ?_⟩
  · show zgo s ((k, d, 0) :: jz_li l) = _
    unfold zgo; rw [h]; exact h3
  · show zbgo t w s b ((k, d, 0) :: jz_li l) = _
    unfold zbgo; rw [h]; exact h4
theorem jz_st_c {t w af : Bool} {s s1 s2 : Nat × Nat × Nat × Nat × Nat} {b b' b2 : zBt} {k d : Nat} {l : List (Nat × Nat)} (h : zsy s k = some s1) (ha : decide (s.1 = 3) = af) (e : ztk t w af k d b.1 b.2.1 b.2.2.1 b.2.2.2.1 b.2.2.2.2 = b') (h2 : jz_st t w s1 b' l s2 b2) : jz_st t w s b ((k, d) :: l) s2 b2 := jz_st_cons h (by rw [ha, e]; exact h2)
theorem jz_d3 {st d l p o : Nat} (h : st < 3) : decide ((st, d, l, p, o).1 = 3) = false := decide_eq_false (by show ¬ st = 3; omega)
theorem jz_st_app {t w : Bool} : ∀ (l l2 : List (Nat × Nat)) {s s1 s2 : Nat × Nat × Nat × Nat × Nat} {b b1 b2 : zBt}, jz_st t w s b l s1 b1 → jz_st t w s1 b1 l2 s2 b2 → jz_st t w s b (l ++ l2) s2 b2
  | [], l2, s, s1, s2, b, b1, b2, h, h2 => by
    obtain ⟨a1, a2⟩ := h
    cases a1
    have a2 : b = b1 := a2
    rw [a2]; exact h2
  | (k, d) :: l, l2, s, s1, s2, b, b1, b2, h, h2 => by
    obtain ⟨a1, a2⟩ := h
    change zgo s ((k, d, 0) :: jz_li l) = some s1 at a1
    change zbgo t w s b ((k, d, 0) :: jz_li l) = b1 at a2
    unfold zgo at a1
    unfold zbgo at a2
    cases hz : zsy s k with
    | none => dsimp only at a1; rw [hz] at a1; cases a1
    | some s3 =>
      dsimp only at a1 a2
      rw [hz] at a1 a2
      exact jz_st_cons hz (jz_st_app l l2 ⟨a1, a2⟩ h2)
theorem jz_zsy_leaf {st d l p o k : Nat} (h : st < 3) (hk : k = 1 ∨ k = 2) : zsy (st, d, l, p, o) k = some (3, d, l, p, o) := by
  unfold zsy
  rw [if_neg (fun h1 => by have := h1.1; dsimp only at this; omega)]
  unfold zsyP
  rw [if_pos hk]
theorem jz_zsy_open {st d l p o : Nat} (h : st < 3) : zsy (st, d, l, p, o) 22 = some (0, d + 1, l, p, o) := by
  unfold zsy
  rw [if_neg (fun h1 => by have := h1.1; dsimp only at this; omega)]
  unfold zsyP
  rw [if_neg (by omega), if_pos rfl]
theorem jz_zsy_neg {d l p o : Nat} : zsy (0, d, l, p, o) 8 = some (1, d, l, p, o) := rfl
theorem jz_zsy_close {d l p o : Nat} : zsy (3, d + 1, l, p, o) 23 = some (3, d, l, p, o) := by
  unfold zsy
  rw [if_pos ⟨rfl, by omega⟩]
  unfold zsyF
  rw [if_neg (by omega), if_pos (by dsimp only; omega), if_pos rfl]
  rfl
theorem jz_zsy_op {d l p o k : Nat} (h : 7 ≤ k ∧ k ≤ 11) : zsy (3, d, l, p, o) k = some (1, d, l, p, o) := by
  unfold zsy
  rw [if_pos ⟨rfl, by omega⟩]
  unfold zsyF
  rw [if_pos h]
theorem jz_zsy_fun {st d l p o k : Nat} (h : 3 ≤ k ∧ k ≤ 6) : zsy (st, d, l, p, o) k = some (2, d, l, 0, o) := by
  unfold zsy
  rw [if_neg (fun h1 => by have := h1.2; omega)]
  unfold zsyP
  rw [if_neg (by omega), if_neg (by omega), if_pos h]
theorem jz_zsy_prime {d l p o : Nat} (h : p < 3) : zsy (2, d, l, p, o) 24 = some (2, d, l, p + 1, o) := by
  unfold zsy
  rw [if_neg (fun h1 => by have := h1.1; dsimp only at this; omega)]
  unfold zsyP
  rw [if_neg (by omega), if_neg (by omega), if_neg (by omega), if_pos ⟨rfl, rfl, h⟩]
/-- what a token does where no juxtaposition comes of it -/
theorem jz_ztk_no {t w af : Bool} {k d : Nat} {nd : List (Nat × Nat × Nat × Nat)} {D : List Nat} {O S : List (Nat × Nat)} {j : Nat} (h : af = false ∨ ¬ (1 ≤ k ∧ k ≤ 6 ∨ k = 22)) : ztk t w af k d nd D O S j = ztk0 t w af k d nd D O S j := by
  unfold ztk zjux
  rw [if_neg (fun h1 => by rcases h with h | h; · rw [h] at h1; exact absurd h1.1 (by decide)
                           · exact h h1.2)]
theorem jz_zlev (t w : Bool) : zlev t w 22 = 0 ∧ zlev t w 13 = 2 ∧ (∀ k, 7 ≤ k ∧ k ≤ 12 → 1 ≤ zlev t w k) ∧ ∀ k, 3 ≤ k ∧ k ≤ 6 → 3 ≤ zlev t w k := by
  refine ⟨rfl, rfl, fun k h => ?_, fun k h => ?_⟩
  · have := (zlev_1 (t := t) (w := w) (k := k) (Or.inl ⟨by omega, by omega⟩)).mpr (by omega)
    exact this
  · unfold zlev; rw [if_pos h]; split <;> omega
theorem jz_stop {t w : Bool} {m : Nat} (hm : 1 ≤ m) {O : List (Nat × Nat)} {nd : List (Nat × Nat × Nat × Nat)} {D : List Nat} {p : Nat} : zdown (zlev t w) m ((22, p) :: O) nd D = (nd, D, (22, p) :: O) := by
  unfold zdown
  rw [if_neg (by rw [(jz_zlev t w).1]; omega)]
theorem jz_take {nd : List (Nat × Nat × Nat × Nat)} {i : Nat} {q : Nat × Nat × Nat × Nat} (h : nd[i]? = some q) : (nd.map jz_n).take i ++ [jz_n q] = (nd.map jz_n).take (i + 1) ∧ ((nd.map jz_n).take i).length = i := by
  have hi := (List.getElem?_eq_some_iff.mp h).1
  refine ⟨?_, ?_⟩
  · rw [List.take_add_one, List.getElem?_map, h]; rfl
  · rw [List.length_take, List.length_map]; omega
/-- primes behind a function's name -/
theorem jz_primes {t w : Bool} {d l o k : Nat} {nd : List (Nat × Nat × Nat × Nat)} {D : List Nat} {O S : List (Nat × Nat)} {j : Nat} : ∀ (n p : Nat), p + n ≤ 3 → jz_st t w (2, d, l, p, o) (nd, D, (k, p) :: O, S, j) (List.replicate n (24, 0)) (2, d, l, p + n, o) (nd, D, (k, p + n) :: O, S, j)
  | 0, p, _ => jz_st_nil
  | n + 1, p, h => by
    rw [List.replicate_succ]
    have e : ztk t w false 24 0 nd D ((k, p) :: O) S j = (nd, D, (k, p + 1) :: O, S, j) := by
      rw [jz_ztk_no (Or.inl rfl)]
      unfold ztk0
      rw [if_neg (by omega), if_neg (by omega), if_pos rfl]
      rfl
    refine jz_st_c (jz_zsy_prime (by omega)) rfl e ?_
    rw [show p + (n + 1) = (p + 1) + n by omega]
    exact jz_primes n (p + 1) (by omega)
theorem jz_rb (t w : Bool) (nd : List (Nat × Nat × Nat × Nat)) : ∀ (f s i : Nat), jz_sg nd f s i → ∀ (st d l p o : Nat) (D : List Nat) (O S : List (Nat × Nat)) (j : Nat), st < 3 →
    ∃ p' b', jz_st t w (st, d, l, p, o) ((nd.map jz_n).take s, D, O, S, j) (jz_tl nd f i) (3, d, l, p', o) b' ∧ b'.2.2.2.1 = S ∧ b'.2.2.2.2 = j ∧ (jz_lf nd i → b' = ((nd.map jz_n).take (i + 1), i :: D, O, S, j)) ∧
      ∀ m, 1 ≤ m → m ≤ 3 → zdown (zlev t w) m b'.2.2.1 b'.1 b'.2.1 = zdown (zlev t w) m O ((nd.map jz_n).take (i + 1)) (i :: D)
  | 0, _, _, h => h.elim
  | f + 1, s, i, h => by
    intro st d l p o D O S j hst
    obtain ⟨⟨k, e, a, c⟩, hq, h⟩ := h
    obtain ⟨ht1, ht2⟩ := jz_take hq
    have hlf : jz_lf nd i → k ≤ 2 := fun ⟨q, h1, h2⟩ => by rw [hq] at h1; cases h1; exact h2
    unfold jz_tl
    rw [hq]
    dsimp only at h ⊢
    rcases h with ⟨h1, h2, h3⟩ | ⟨h1, h2, h3, h4⟩ | ⟨h1, h2, h3, h4, h5, h6⟩
    · -- a leaf
      subst h2
      cases h3
      have hk : k = 1 ∨ k = 2 := by omega
      rw [if_pos (by omega)]
      have hb : ztk t w (decide ((st, d, l, p, o).1 = 3)) k e ((nd.map jz_n).take s) D O S j = ((nd.map jz_n).take (s + 1), s :: D, O, S, j) := by
        have : decide ((st, d, l, p, o).1 = 3) = false := decide_eq_false (by show ¬ st = 3; omega)
        rw [this, jz_ztk_no (Or.inl rfl)]
        unfold ztk0
        rw [if_pos hk, ht2]
        have e2 : jz_n (k, e, 0, 0) = (k, e, 0, 0) := by unfold jz_n jz_k; rw [if_neg (by show k ≠ 12; omega)]
        rw [e2] at ht1
        rw [ht1]
      refine ⟨p, _, jz_st_cons (jz_zsy_leaf hst hk) jz_st_nil, ?_⟩
      dsimp only
      rw [hb]
      exact ⟨rfl, rfl, fun _ => rfl, fun m _ _ => rfl⟩
    · -- one operand
      rw [if_neg (by omega)]
      have hai : a < i := by omega
      have hn : ∀ k', k' = k → jz_n (k, e, a, c) = (k', e, a, 0) := fun k' hk' => by
        subst hk'
        unfold jz_n jz_k; dsimp only at h2 ⊢; rw [if_neg (by omega), h2]
      have hta : (nd.map jz_n).take (a + 1) = (nd.map jz_n).take i := by rw [h3]
      by_cases h6 : k ≤ 6
      · rw [if_pos h6]
        have hk : 3 ≤ k ∧ k ≤ 6 := by omega
        have he : e ≤ 3 := by omega
        obtain ⟨p', b', r1, r2, r3, r4, r5⟩ := jz_rb t w nd f s a h4 0 (d + 1) l e o D ((22, 0) :: (k, e) :: O) S j (by omega)
        obtain ⟨b1, b2, b3, b4, b5⟩ := b'
        dsimp only at r2 r3
        subst r2 r3
        refine ⟨p', ((nd.map jz_n).take i, a :: D, (k, e) :: O, b4, b5), ?_, rfl, rfl, fun h => absurd (hlf h) (by omega), fun m hm hm3 => ?_⟩
        · have e1 : ztk t w false k 0 ((nd.map jz_n).take s) D O b4 b5 = ((nd.map jz_n).take s, D, (k, 0) :: O, b4, b5) := by
            rw [jz_ztk_no (Or.inl rfl)]
            unfold ztk0
            rw [if_neg (by omega), if_pos (Or.inl hk)]
          refine jz_st_c (jz_zsy_fun hk) (jz_d3 hst) e1 ?_
          refine jz_st_app _ _ (s1 := (2, d, l, e, o)) (b1 := ((nd.map jz_n).take s, D, (k, e) :: O, b4, b5)) (by have := jz_primes (t := t) (w := w) (d := d) (l := l) (o := o) (k := k) (nd := (nd.map jz_n).take s) (D := D) (O := O) (S := b4) (j := b5) e 0 (by omega); rw [Nat.zero_add] at this; exact this) ?_
          have e2 : ztk t w false 22 0 ((nd.map jz_n).take s) D ((k, e) :: O) b4 b5 = ((nd.map jz_n).take s, D, (22, 0) :: (k, e) :: O, b4, b5) := by
            rw [jz_ztk_no (Or.inl rfl)]
            unfold ztk0
            rw [if_neg (by omega), if_pos (Or.inr rfl)]
          refine jz_st_c (jz_zsy_open (by omega)) rfl e2 ?_
          have e3 : ztk t w true 23 0 b1 b2 b3 b4 b5 = ((nd.map jz_n).take i, a :: D, (k, e) :: O, b4, b5) := by
            rw [jz_ztk_no (Or.inr (by omega))]
            unfold ztk0
            rw [if_neg (by omega), if_neg (by omega), if_neg (by omega), if_neg (fun h => absurd h.1 (by omega)), if_neg (by omega), if_pos rfl]
            have := r5 1 (by omega) (by omega)
            dsimp only at this
            rw [this, jz_stop (by omega), hta]
            rfl
          refine jz_st_app _ _ r1 (jz_st_c jz_zsy_close rfl e3 ?_)
          exact jz_st_nil
        · dsimp only
          rw [zdown]
          dsimp only
          rw [if_pos (by have := (jz_zlev t w).2.2.2 k hk; omega)]
          unfold zap
          dsimp only
          rw [if_neg (by omega), ht2]
          dsimp only
          rw [hn k rfl] at ht1
          rw [show (a :: D).getD 0 0 = a from rfl, ht1]
          rfl
      · have hk : k = 13 := by omega
        subst hk
        have he : e = 0 := by omega
        subst he
        rw [if_neg (by omega), if_pos rfl]
        obtain ⟨p', b', r1, r2, r3, r4, r5⟩ := jz_rb t w nd f s a h4 1 (d + 1) l p o D ((13, 0) :: (22, 0) :: O) S j (by omega)
        obtain ⟨b1, b2, b3, b4, b5⟩ := b'
        dsimp only at r2 r3
        subst r2 r3
        refine ⟨p', ((nd.map jz_n).take (i + 1), i :: D, O, b4, b5), ?_, rfl, rfl, fun _ => rfl, fun m hm hm3 => rfl⟩
        have e1 : ztk t w false 22 0 ((nd.map jz_n).take s) D O b4 b5 = ((nd.map jz_n).take s, D, (22, 0) :: O, b4, b5) := by
          rw [jz_ztk_no (Or.inl rfl)]
          unfold ztk0
          rw [if_neg (by omega), if_pos (Or.inr rfl)]
        refine jz_st_c (jz_zsy_open hst) (jz_d3 hst) e1 ?_
        have e2 : ztk t w false 8 0 ((nd.map jz_n).take s) D ((22, 0) :: O) b4 b5 = ((nd.map jz_n).take s, D, (13, 0) :: (22, 0) :: O, b4, b5) := by
          rw [jz_ztk_no (Or.inl rfl)]
          unfold ztk0
          rw [if_neg (by omega), if_neg (by omega), if_neg (by omega), if_pos ⟨rfl, rfl⟩]
        refine jz_st_c jz_zsy_neg rfl e2 ?_
        have e3 : ztk t w true 23 0 b1 b2 b3 b4 b5 = ((nd.map jz_n).take (i + 1), i :: D, O, b4, b5) := by
          rw [jz_ztk_no (Or.inr (by omega))]
          unfold ztk0
          rw [if_neg (by omega), if_neg (by omega), if_neg (by omega), if_neg (fun h => absurd h.1 (by omega)), if_neg (by omega), if_pos rfl]
          have := r5 1 (by omega) (by omega)
          dsimp only at this
          rw [this, zdown]
          dsimp only
          rw [if_pos (by rw [(jz_zlev t w).2.1]; omega), hta]
          unfold zap
          dsimp only
          rw [if_neg (by omega), ht2]
          dsimp only
          rw [jz_stop (by omega)]
          rw [hn 13 rfl] at ht1
          rw [show (a :: D).getD 0 0 = a from rfl, ht1]
          rfl
        refine jz_st_app _ _ r1 (jz_st_c jz_zsy_close rfl e3 ?_)
        exact jz_st_nil
    · -- two operands
      subst h2
      have hsg := jz_sg_le _ _ _ h5
      have hac : a < c := by omega
      rw [if_neg (by omega), if_neg (by omega), if_neg (by omega)]
      obtain ⟨k1, k2, k3⟩ := jz_k_op h1
      obtain ⟨p', b', r1, r2, r3, r4, r5⟩ := jz_rb t w nd f s a h4 0 (d + 1) l p o D ((22, 0) :: O) S j (by omega)
      obtain ⟨p2, c', u1, u2, u3, u4, u5⟩ := jz_rb t w nd f (a + 1) c h5 1 (d + 1) l p' o (a :: D) ((jz_k k, 0) :: (22, 0) :: O) S j (by omega)
      obtain ⟨b1, b2, b3, b4, b5⟩ := b'
      obtain ⟨c1, c2, c3, c4, c5⟩ := c'
      dsimp only at r2 r3 u2 u3
      subst r2 r3
      subst u2 u3
      refine ⟨p2, ((nd.map jz_n).take (i + 1), i :: D, O, c4, c5), ?_, rfl, rfl, fun _ => rfl, fun m hm hm3 => rfl⟩
      have e1 : ztk t w false 22 0 ((nd.map jz_n).take s) D O c4 c5 = ((nd.map jz_n).take s, D, (22, 0) :: O, c4, c5) := by
        rw [jz_ztk_no (Or.inl rfl)]
        unfold ztk0
        rw [if_neg (by omega), if_pos (Or.inr rfl)]
      refine jz_st_c (jz_zsy_open hst) (jz_d3 hst) e1 ?_
      have e2 : ztk t w true (jz_k k) 0 b1 b2 b3 c4 c5 = ((nd.map jz_n).take (a + 1), a :: D, (jz_k k, 0) :: (22, 0) :: O, c4, c5) := by
        rw [jz_ztk_no (Or.inr (by omega))]
        unfold ztk0
        rw [if_neg (by omega), if_neg (by omega), if_neg (by omega), if_neg (fun h => absurd h.2 (by decide)), if_pos ⟨k1, k2⟩]
        by_cases h11 : k = 11
        · have := r4 (h6 h11)
          injection this with v1 v2
          injection v2 with v2 v3
          injection v3 with v3 v4
          rw [v1, v2, v3, jz_stop (by unfold zcom; repeat' split
                                      all_goals omega)]
        · have hz : zcom (jz_k k) ≤ 3 ∧ 1 ≤ zcom (jz_k k) := by
            have : jz_k k ≠ 11 := by unfold jz_k; split <;> omega
            unfold zcom
            by_cases g1 : jz_k k = 7 ∨ jz_k k = 8
            · rw [if_pos g1]; omega
            · rw [if_neg g1, if_pos (by omega)]; omega
          have := r5 (zcom (jz_k k)) hz.2 hz.1
          dsimp only at this
          rw [this, jz_stop hz.2]
      refine jz_st_app _ _ r1 (jz_st_c (jz_zsy_op ⟨k1, k2⟩) rfl e2 ?_)
      have e3 : ztk t w true 23 0 c1 c2 c3 c4 c5 = ((nd.map jz_n).take (i + 1), i :: D, O, c4, c5) := by
        rw [jz_ztk_no (Or.inr (by omega))]
        unfold ztk0
        rw [if_neg (by omega), if_neg (by omega), if_neg (by omega), if_neg (fun h => absurd h.1 (by omega)), if_neg (by omega), if_pos rfl]
        have := u5 1 (by omega) (by omega)
        dsimp only at this
        rw [this, zdown]
        dsimp only
        rw [if_pos ((jz_zlev t w).2.2.1 (jz_k k) ⟨k1, by omega⟩), h3]
        unfold zap
        dsimp only
        rw [if_pos ⟨k1, by omega⟩, ht2]
        dsimp only
        rw [jz_stop (by omega)]
        have hn : jz_n (k, 0, a, c) = (jz_k k, 0, a, c) := rfl
        rw [hn] at ht1
        rw [show (c :: a :: D).getD 0 0 = c from rfl, show (c :: a :: D).getD 1 0 = a from rfl, ht1]
        rfl
      refine jz_st_app _ _ u1 (jz_st_c jz_zsy_close rfl e3 ?_)
      exact jz_st_nil
/-! What the builder makes of a row of tokens without brackets and relations: one tree, its nodes in the order of their making. -/
/-- the operands' trees lie side by side, from 0 to n -/
def jz_Ds (nd : List (Nat × Nat × Nat × Nat)) : Nat → List Nat → Prop
  | n, [] => n = 0
  | n, d :: D => d + 1 = n ∧ ∃ f s, jz_sg nd f s d ∧ jz_Ds nd s D
/-- each operator of two operands that waits has its left one -/
def jz_lp (nd : List (Nat × Nat × Nat × Nat)) : List (Nat × Nat) → List Nat → Prop
  | [], D => D = []
  | q :: O, D => if 7 ≤ q.1 ∧ q.1 ≤ 12 then ∃ d D', D = d :: D' ∧ (q.1 = 11 → jz_lf nd d) ∧ jz_lp nd O D' else jz_lp nd O D
def jz_Oq (O : List (Nat × Nat)) : Prop := ∀ q ∈ O, 3 ≤ q.1 ∧ q.1 ≤ 6 ∧ q.2 ≤ 3 ∨ 7 ≤ q.1 ∧ q.1 ≤ 13 ∧ q.2 = 0
theorem jz_Ds_app {nd X : List (Nat × Nat × Nat × Nat)} : ∀ (D : List Nat) (n : Nat), jz_Ds nd n D → jz_Ds (nd ++ X) n D
  | [], _, h => h
  | d :: D, n, h => by
    obtain ⟨h1, f, s, h2, h3⟩ := h
    exact ⟨h1, f, s, jz_sg_app _ _ _ h2, jz_Ds_app D s h3⟩
theorem jz_lp_app {nd X : List (Nat × Nat × Nat × Nat)} : ∀ (O : List (Nat × Nat)) (D : List Nat), jz_lp nd O D → jz_lp (nd ++ X) O D
  | [], _, h => h
  | q :: O, D, h => by
    unfold jz_lp at h ⊢
    by_cases hb : 7 ≤ q.1 ∧ q.1 ≤ 12
    · rw [if_pos hb] at h ⊢
      obtain ⟨d, D', h1, h2, h3⟩ := h
      exact ⟨d, D', h1, fun e => jz_lf_app (h2 e), jz_lp_app O D' h3⟩
    · rw [if_neg hb] at h ⊢
      exact jz_lp_app O D h
theorem jz_last {nd : List (Nat × Nat × Nat × Nat)} {q : Nat × Nat × Nat × Nat} : (nd ++ [q])[nd.length]? = some q := by
  rw [List.getElem?_append_right (Nat.le_refl _), Nat.sub_self]; rfl
/-- one operator is applied -/
theorem jz_zap {nd : List (Nat × Nat × Nat × Nat)} {q : Nat × Nat} {O : List (Nat × Nat)} {x : Nat} {D : List Nat} (hq : 3 ≤ q.1 ∧ q.1 ≤ 6 ∧ q.2 ≤ 3 ∨ 7 ≤ q.1 ∧ q.1 ≤ 13 ∧ q.2 = 0) (hD : jz_Ds nd nd.length (x :: D)) (hl : jz_lp nd (q :: O) D) :
    ∃ X y D', (zap q nd (x :: D)).1 = nd ++ X ∧ (zap q nd (x :: D)).2 = y :: D' ∧ jz_Ds (nd ++ X) (nd ++ X).length (y :: D') ∧ jz_lp (nd ++ X) O D' := by
  obtain ⟨h1, f, s, h2, h3⟩ := hD
  unfold jz_lp at hl
  by_cases hb : 7 ≤ q.1 ∧ q.1 ≤ 12
  · rw [if_pos hb] at hl
    obtain ⟨d, D', rfl, h4, h5⟩ := hl
    obtain ⟨g1, f', s', g2, g3⟩ := h3
    refine ⟨[(q.1, q.2, d, x)], nd.length, D', ?_, ?_, ⟨by simp, f + f' + 1, s', ⟨_, jz_last, Or.inr (Or.inr ⟨hb, by show q.2 = 0; omega, h1, ?_, ?_, fun e => jz_lf_app (h4 e)⟩)⟩, jz_Ds_app _ _ g3⟩, jz_lp_app _ _ h5⟩
    · unfold zap; rw [if_pos hb]; rfl
    · unfold zap; rw [if_pos hb]; rfl
    · exact jz_sg_app _ _ _ (jz_sg_mono f' _ _ _ (by omega) g2)
    · show jz_sg _ (f + f') (d + 1) x
      rw [g1]
      exact jz_sg_app _ _ _ (jz_sg_mono f _ _ _ (by omega) h2)
  · rw [if_neg hb] at hl
    refine ⟨[(q.1, q.2, x, 0)], nd.length, D, ?_, ?_, ⟨by simp, f + 1, s, ⟨_, jz_last, Or.inr (Or.inl ⟨by show 3 ≤ q.1 ∧ q.1 ≤ 6 ∧ q.2 ≤ 3 ∨ q.1 = 13 ∧ q.2 = 0; omega, rfl, h1, jz_sg_app _ _ _ h2⟩)⟩, jz_Ds_app _ _ h3⟩, jz_lp_app _ _ hl⟩
    · unfold zap; rw [if_neg hb]; rfl
    · unfold zap; rw [if_neg hb]; rfl
theorem jz_down (lev : Nat → Nat) (m : Nat) : ∀ (O : List (Nat × Nat)) (nd : List (Nat × Nat × Nat × Nat)) (x : Nat) (D : List Nat), jz_Oq O → jz_Ds nd nd.length (x :: D) → jz_lp nd O D →
    ∃ X y D', (zdown lev m O nd (x :: D)).1 = nd ++ X ∧ (zdown lev m O nd (x :: D)).2.1 = y :: D' ∧ jz_Ds (nd ++ X) (nd ++ X).length (y :: D') ∧ jz_lp (nd ++ X) (zdown lev m O nd (x :: D)).2.2 D' ∧ jz_Oq (zdown lev m O nd (x :: D)).2.2 ∧ ((∀ q ∈ O, m ≤ lev q.1) → (zdown lev m O nd (x :: D)).2.2 = [])
  | [], nd, x, D, h1, h2, h3 => ⟨[], x, D, by rw [List.append_nil]; rfl, rfl, by rw [List.append_nil]; exact h2, by rw [List.append_nil]; exact h3, h1, fun _ => rfl⟩
  | q :: O, nd, x, D, h1, h2, h3 => by
    unfold zdown
    by_cases hm : m ≤ lev q.1
    · rw [if_pos hm]
      obtain ⟨X, y, D', a1, a2, a3, a4⟩ := jz_zap (h1 q (by simp)) h2 h3
      rw [a1, a2]
      obtain ⟨Y, z, D2, b1, b2, b3, b4, b5, b6⟩ := jz_down lev m O (nd ++ X) y D' (fun p hp => h1 p (by simp [hp])) a3 a4
      refine ⟨X ++ Y, z, D2, ?_, b2, ?_, ?_, b5, fun h => b6 (fun p hp => h p (by simp [hp]))⟩
      · rw [b1, List.append_assoc]
      · rw [← List.append_assoc]; exact b3
      · rw [← List.append_assoc]; exact b4
    · rw [if_neg hm]
      exact ⟨[], x, D, by rw [List.append_nil], rfl, by rw [List.append_nil]; exact h2, by rw [List.append_nil]; exact h3, h1, fun h => absurd (h q (by simp)) hm⟩
/-- tokens without brackets and relations -/
def jz_tg (q : Nat × Nat) : Prop := (q.1 = 1 ∧ q.2 < 10) ∨ (q.1 = 2 ∧ 22 ≤ q.2 ∧ q.2 < 26) ∨ (3 ≤ q.1 ∧ q.1 ≤ 11) ∨ q.1 = 24
/-- a power's base is one token -/
def jz_adj : Bool → List (Nat × Nat) → Prop
  | _, [] => True
  | b, q :: l => (q.1 = 11 → b = true) ∧ jz_adj (decide (q.1 = 1 ∨ q.1 = 2)) l
/-- behind a function's name it waits at the top, with its primes -/
def jz_fw (s1 s4 : Nat) (O : List (Nat × Nat)) : Prop := s1 = 2 → s4 ≤ 3 ∧ ∃ k O', O = (k, s4) :: O' ∧ 3 ≤ k ∧ k ≤ 6
/-- what the builder keeps over such tokens -/
def jz_inv (pv : Bool) (s : Nat × Nat × Nat × Nat × Nat) (b : zBt) : Prop :=
  jz_Ds b.1 b.1.length b.2.1 ∧ jz_Oq b.2.2.1 ∧ b.2.2.2.1 = [] ∧ b.2.2.2.2 = 0 ∧ s.1 < 4 ∧ s.2.1 = 0 ∧ s.2.2.2.2 = 0 ∧ s.2.2.1 = 0 ∧
  (s.1 = 3 → ∃ x D, b.2.1 = x :: D ∧ jz_lp b.1 b.2.2.1 D ∧ (pv = true → jz_lf b.1 x)) ∧ (s.1 ≠ 3 → jz_lp b.1 b.2.2.1 b.2.1) ∧ jz_fw s.1 s.2.2.2.1 b.2.2.1
theorem jz_leaf {nd : List (Nat × Nat × Nat × Nat)} {D : List Nat} {k d : Nat} (h : k = 1 ∧ d < 10 ∨ k = 2 ∧ 22 ≤ d ∧ d < 26) (hD : jz_Ds nd nd.length D) : jz_Ds (nd ++ [(k, d, 0, 0)]) (nd ++ [(k, d, 0, 0)]).length (nd.length :: D) ∧ jz_lf (nd ++ [(k, d, 0, 0)]) nd.length :=
  ⟨⟨by simp, 1, nd.length, ⟨_, jz_last, Or.inl ⟨h, rfl, rfl⟩⟩, jz_Ds_app _ _ hD⟩, ⟨_, jz_last, by show k ≤ 2; omega⟩⟩
theorem jz_push {nd : List (Nat × Nat × Nat × Nat)} {O : List (Nat × Nat)} {x : Nat} {D : List Nat} {k : Nat} (hb : 7 ≤ k ∧ k ≤ 12) (h : jz_lp nd O D) (h2 : k = 11 → jz_lf nd x) : jz_lp nd ((k, 0) :: O) (x :: D) := by
  unfold jz_lp
  rw [if_pos hb]
  exact ⟨x, D, rfl, h2, h⟩
theorem jz_lp_un {nd : List (Nat × Nat × Nat × Nat)} {O : List (Nat × Nat)} {D : List Nat} {k p : Nat} (hb : ¬ (7 ≤ k ∧ k ≤ 12)) (h : jz_lp nd O D) : jz_lp nd ((k, p) :: O) D := by
  unfold jz_lp
  rw [if_neg hb]
  exact h
/-- what stands before a power, after a possible juxtaposition -/
theorem jz_before {t w : Bool} {pv : Bool} {s : Nat × Nat × Nat × Nat × Nat} {b : zBt} {k : Nat} (h : jz_inv pv s b) (hk : 1 ≤ k ∧ k ≤ 6) :
    jz_Ds (zjux t w (decide (s.1 = 3)) k b.1 b.2.1 b.2.2.1).1 (zjux t w (decide (s.1 = 3)) k b.1 b.2.1 b.2.2.1).1.length (zjux t w (decide (s.1 = 3)) k b.1 b.2.1 b.2.2.1).2.1 ∧ jz_Oq (zjux t w (decide (s.1 = 3)) k b.1 b.2.1 b.2.2.1).2.2 ∧ jz_lp (zjux t w (decide (s.1 = 3)) k b.1 b.2.1 b.2.2.1).1 (zjux t w (decide (s.1 = 3)) k b.1 b.2.1 b.2.2.1).2.2 (zjux t w (decide (s.1 = 3)) k b.1 b.2.1 b.2.2.1).2.1 := by
  obtain ⟨i1, i2, -, -, -, -, -, -, i3, i4, -⟩ := h
  unfold zjux
  by_cases h3 : s.1 = 3
  · rw [if_pos ⟨decide_eq_true h3, Or.inl hk⟩]
    obtain ⟨x, D, e, hl, -⟩ := i3 h3
    rw [e] at i1 ⊢
    obtain ⟨X, y, D', a1, a2, a3, a4, a5, -⟩ := jz_down (zlev t w) 4 b.2.2.1 b.1 x D i2 i1 hl
    dsimp only
    rw [a1, a2]
    exact ⟨a3, fun q hq => by
      rcases List.mem_cons.mp hq with rfl | hq
      · exact Or.inr ⟨by decide, by decide, rfl⟩
      · exact a5 q hq, jz_push (by decide) a4 (fun h => absurd h (by decide))⟩
  · rw [if_neg (fun h => h3 (of_decide_eq_true h.1))]
    exact ⟨i1, i2, i4 h3⟩
theorem jz_keep (t w : Bool) : ∀ (l : List (Nat × Nat)) (pv : Bool) (s sf : Nat × Nat × Nat × Nat × Nat) (b : zBt), (∀ q ∈ l, jz_tg q) → jz_adj pv l → zgo s (jz_li l) = some sf → jz_inv pv s b → ∃ pf, jz_inv pf sf (zbgo t w s b (jz_li l))
  | [], pv, s, sf, b, _, _, hg, hi => by
    cases hg
    exact ⟨pv, hi⟩
  | (k, d) :: l, pv, s, sf, b, ht, ha, hg, hi => by
    change zgo s ((k, d, 0) :: jz_li l) = some sf at hg
    obtain ⟨s', hz, hg'⟩ := zgo_step hg
    dsimp only at hz
    have hb : zbgo t w s b (jz_li ((k, d) :: l)) = zbgo t w s' (ztk t w (decide (s.1 = 3)) k d b.1 b.2.1 b.2.2.1 b.2.2.2.1 b.2.2.2.2) (jz_li l) := by
      show zbgo t w s b ((k, d, 0) :: jz_li l) = _
      rw [zbgo]; dsimp only; rw [hz]
    rw [hb]
    have hk := ht (k, d) (by simp)
    unfold jz_tg at hk
    dsimp only at hk
    obtain ⟨ha1, ha2⟩ := ha
    dsimp only at ha1 ha2
    have hrest : ∀ q ∈ l, jz_tg q := fun q hq => ht q (by simp [hq])
    refine jz_keep t w l (decide (k = 1 ∨ k = 2)) s' sf _ hrest ha2 hg' ?_
    have hjb := fun hk => jz_before (t := t) (w := w) hi (k := k) hk
    obtain ⟨i1, i2, i5, i6, i7, i8, i9, i10, i3, i4, i11⟩ := hi
    obtain ⟨s1, s2, s3, s4, s5⟩ := s
    dsimp only at i7 i8 i9 i10 i3 i4 i11 hjb ⊢
    subst i8 i9 i10
    -- the checker's step
    have hst : s' = (if k = 1 ∨ k = 2 then 3 else if 3 ≤ k ∧ k ≤ 6 ∨ k = 24 then 2 else 1, 0, 0, if 3 ≤ k ∧ k ≤ 6 then 0 else if k = 24 then s4 + 1 else s4, 0) ∧ (k = 24 → s1 = 2 ∧ s4 < 3) ∧ ((7 ≤ k ∧ k ≤ 11) → s1 = 3 ∨ k = 8 ∧ s1 = 0) := by
      unfold zsy at hz
      dsimp only at hz
      by_cases h3 : s1 = 3 ∧ ¬ (2 ≤ k ∧ k ≤ 6 ∨ k = 22)
      · rw [if_pos h3] at hz
        unfold zsyF at hz
        by_cases h7 : 7 ≤ k ∧ k ≤ 11
        · rw [if_pos h7] at hz
          rw [if_neg (by omega), if_neg (by omega), if_neg (by omega), if_neg (by omega)]
          exact ⟨(Option.some.inj hz).symm, fun h => absurd h (by omega), fun _ => Or.inl h3.1⟩
        · rw [if_neg h7, if_neg (by omega), if_neg (by omega), if_neg (by omega)] at hz
          cases hz
      · rw [if_neg h3] at hz
        unfold zsyP at hz
        by_cases h1 : k = 1 ∨ k = 2
        · rw [if_pos h1] at hz
          rw [if_pos h1, if_neg (by omega), if_neg (by omega)]
          exact ⟨(Option.some.inj hz).symm, fun h => absurd h (by omega), fun h => absurd h (by omega)⟩
        rw [if_neg h1, if_neg (by omega)] at hz
        rw [if_neg h1]
        by_cases h2 : 3 ≤ k ∧ k ≤ 6
        · rw [if_pos h2] at hz
          rw [if_pos (Or.inl h2), if_pos h2]
          exact ⟨(Option.some.inj hz).symm, fun h => absurd h (by omega), fun h => absurd h (by omega)⟩
        rw [if_neg h2] at hz
        rw [if_neg h2]
        by_cases h24 : k = 24 ∧ s1 = 2 ∧ s4 < 3
        · rw [if_pos h24] at hz
          rw [if_pos (Or.inr h24.1), if_pos h24.1]
          exact ⟨(Option.some.inj hz).symm, fun _ => h24.2, fun h => absurd h (by omega)⟩
        rw [if_neg h24] at hz
        by_cases h8 : k = 8 ∧ s1 = 0
        · rw [if_pos h8] at hz
          rw [if_neg (by omega), if_neg (by omega)]
          exact ⟨(Option.some.inj hz).symm, fun h => absurd h (by omega), fun _ => Or.inr h8⟩
        rw [if_neg h8] at hz
        cases hz
    obtain ⟨hs', hs24, hs7⟩ := hst
    rw [hs']
    unfold jz_inv
    dsimp only
    by_cases h1 : k = 1 ∨ k = 2
    · -- a leaf
      obtain ⟨j1, j2, j3⟩ := hjb (by omega)
      have e : ztk t w (decide (s1 = 3)) k d b.1 b.2.1 b.2.2.1 b.2.2.2.1 b.2.2.2.2 = ((zjux t w (decide (s1 = 3)) k b.1 b.2.1 b.2.2.1).1 ++ [(k, d, 0, 0)], (zjux t w (decide (s1 = 3)) k b.1 b.2.1 b.2.2.1).1.length :: (zjux t w (decide (s1 = 3)) k b.1 b.2.1 b.2.2.1).2.1, (zjux t w (decide (s1 = 3)) k b.1 b.2.1 b.2.2.1).2.2, b.2.2.2.1, b.2.2.2.2) := by
        unfold ztk ztk0; rw [if_pos h1]
      rw [e, if_pos h1]
      obtain ⟨l1, l2⟩ := jz_leaf (nd := (zjux t w (decide (s1 = 3)) k b.1 b.2.1 b.2.2.1).1) (k := k) (d := d) (by omega) j1
      exact ⟨l1, j2, i5, i6, by omega, rfl, rfl, rfl, fun _ => ⟨_, _, rfl, jz_lp_app _ _ j3, fun _ => l2⟩, fun h => absurd rfl h, fun h => absurd h (by omega)⟩
    rw [if_neg h1]
    by_cases h2 : 3 ≤ k ∧ k ≤ 6
    · -- a function
      obtain ⟨j1, j2, j3⟩ := hjb (by omega)
      have e : ztk t w (decide (s1 = 3)) k d b.1 b.2.1 b.2.2.1 b.2.2.2.1 b.2.2.2.2 = ((zjux t w (decide (s1 = 3)) k b.1 b.2.1 b.2.2.1).1, (zjux t w (decide (s1 = 3)) k b.1 b.2.1 b.2.2.1).2.1, (k, 0) :: (zjux t w (decide (s1 = 3)) k b.1 b.2.1 b.2.2.1).2.2, b.2.2.2.1, b.2.2.2.2) := by
        unfold ztk ztk0; rw [if_neg h1, if_pos (Or.inl h2)]
      rw [e, if_pos (Or.inl h2), if_pos h2]
      refine ⟨j1, fun q hq => ?_, i5, i6, by omega, rfl, rfl, rfl, fun h => by omega, fun _ => jz_lp_un (by omega) j3, fun _ => ⟨by omega, k, _, rfl, h2⟩⟩
      rcases List.mem_cons.mp hq with rfl | hq
      · exact Or.inl ⟨h2.1, h2.2, Nat.zero_le _⟩
      · exact j2 q hq
    rw [if_neg h2]
    by_cases h24 : k = 24
    · -- a prime
      obtain ⟨g1, g2⟩ := hs24 h24
      obtain ⟨g3, k', O, g4, g5⟩ := i11 g1
      have e : ztk t w (decide (s1 = 3)) k d b.1 b.2.1 b.2.2.1 b.2.2.2.1 b.2.2.2.2 = (b.1, b.2.1, (k', s4 + 1) :: O, b.2.2.2.1, b.2.2.2.2) := by
        rw [jz_ztk_no (Or.inr (by omega))]
        unfold ztk0; rw [if_neg h1, if_neg (by omega), if_pos h24, g4]; rfl
      rw [e, if_pos (Or.inr h24), if_pos h24]
      have hlp := i4 (by omega)
      rw [g4] at hlp i2
      have hlp2 : jz_lp b.1 O b.2.1 := by unfold jz_lp at hlp; rw [if_neg (by show ¬ (7 ≤ k' ∧ k' ≤ 12); omega)] at hlp; exact hlp
      refine ⟨i1, fun q hq => ?_, i5, i6, by omega, rfl, rfl, rfl, fun h => by omega, fun _ => jz_lp_un (by omega) hlp2, fun _ => ⟨by omega, k', O, rfl, g5⟩⟩
      rcases List.mem_cons.mp hq with rfl | hq
      · exact Or.inl ⟨g5.1, g5.2, by show s4 + 1 ≤ 3; omega⟩
      · exact i2 q (by simp [hq])
    rw [if_neg (by omega), if_neg h24]
    have h7 : 7 ≤ k ∧ k ≤ 11 := by omega
    by_cases h3 : s1 = 3
    · -- an operator of two operands
      obtain ⟨x, D, e0, hl, hlf⟩ := i3 h3
      have e : ztk t w (decide (s1 = 3)) k d b.1 b.2.1 b.2.2.1 b.2.2.2.1 b.2.2.2.2 = ((zdown (zlev t w) (zcom k) b.2.2.1 b.1 b.2.1).1, (zdown (zlev t w) (zcom k) b.2.2.1 b.1 b.2.1).2.1, (k, 0) :: (zdown (zlev t w) (zcom k) b.2.2.1 b.1 b.2.1).2.2, b.2.2.2.1, b.2.2.2.2) := by
        rw [jz_ztk_no (Or.inr (by omega))]
        unfold ztk0; rw [if_neg h1, if_neg (by omega), if_neg h24, if_neg (fun h => absurd (decide_eq_true h3) (by rw [h.2]; decide)), if_pos h7]
      rw [e, e0]
      rw [e0] at i1
      by_cases h11 : k = 11
      · have hst : ∀ (O : List (Nat × Nat)) (nd : List (Nat × Nat × Nat × Nat)) (D : List Nat), zdown (zlev t w) (zcom k) O nd D = (nd, D, O) := fun O nd D => by
          cases O with
          | nil => rfl
          | cons q O =>
            unfold zdown
            rw [if_neg (by have := zlev_lt t w q.1; have e6 : zcom k = 6 := by rw [h11]; rfl
                           omega)]
        rw [hst]
        refine ⟨i1, fun q hq => ?_, i5, i6, by omega, rfl, rfl, rfl, fun h => by omega, fun _ => jz_push (by omega) hl (fun _ => hlf (ha1 h11)), fun h => absurd h (by omega)⟩
        rcases List.mem_cons.mp hq with rfl | hq
        · exact Or.inr ⟨h7.1, by show k ≤ 13; omega, rfl⟩
        · exact i2 q hq
      · obtain ⟨X, y, D', a1, a2, a3, a4, a5, -⟩ := jz_down (zlev t w) (zcom k) b.2.2.1 b.1 x D i2 i1 hl
        rw [a1, a2]
        refine ⟨a3, fun q hq => ?_, i5, i6, by omega, rfl, rfl, rfl, fun h => by omega, fun _ => jz_push (by omega) a4 (fun h => absurd h h11), fun h => absurd h (by omega)⟩
        rcases List.mem_cons.mp hq with rfl | hq
        · exact Or.inr ⟨h7.1, by show k ≤ 13; omega, rfl⟩
        · exact a5 q hq
    · -- a leading minus
      obtain ⟨h8, h0⟩ : k = 8 ∧ s1 = 0 := by
        rcases hs7 h7 with h | h
        · exact absurd h h3
        · exact h
      have e : ztk t w (decide (s1 = 3)) k d b.1 b.2.1 b.2.2.1 b.2.2.2.1 b.2.2.2.2 = (b.1, b.2.1, (13, 0) :: b.2.2.1, b.2.2.2.1, b.2.2.2.2) := by
        rw [jz_ztk_no (Or.inr (by omega))]
        unfold ztk0; rw [if_neg h1, if_neg (by omega), if_neg h24, if_pos ⟨h8, decide_eq_false h3⟩]
      rw [e]
      refine ⟨i1, fun q hq => ?_, i5, i6, by omega, rfl, rfl, rfl, fun h => by omega, fun _ => jz_lp_un (by decide) (i4 h3), fun h => absurd h (by omega)⟩
      rcases List.mem_cons.mp hq with rfl | hq
      · exact Or.inr ⟨by decide, by decide, rfl⟩
      · exact i2 q hq
/-- such a formula has one sum, and its nodes are that sum's tree -/
theorem jz_one (t w : Bool) {l : List (Nat × Nat)} {sf : Nat × Nat × Nat × Nat × Nat} (ht : ∀ q ∈ l, jz_tg q) (ha : jz_adj false l) (hg : zgo zs0 (jz_li l) = some sf) (hf : sf.1 = 3) :
    ∃ r f, zbuild t w (jz_li l) = ((zbuild t w (jz_li l)).1, [(0, r)]) ∧ r + 1 = (zbuild t w (jz_li l)).1.length ∧ jz_sg (zbuild t w (jz_li l)).1 f 0 r := by
  obtain ⟨pf, i1, i2, i5, i6, i7, i8, i9, i10, i3, i4, i11⟩ := jz_keep t w l false zs0 sf ([], [], [], [], 0) ht ha hg ⟨rfl, (fun q hq => absurd hq List.not_mem_nil : jz_Oq []), rfl, rfl, (by decide : (0 : Nat) < 4), rfl, rfl, rfl, fun h => absurd (show (0 : Nat) = 3 from h) (by decide), fun _ => rfl, fun h => absurd (show (0 : Nat) = 2 from h) (by decide)⟩
  obtain ⟨x, D, e, hl, -⟩ := i3 hf
  unfold zbuild
  generalize zbgo t w zs0 ([], [], [], [], 0) (jz_li l) = b at *
  rw [e] at i1 ⊢
  obtain ⟨X, y, D', a1, a2, a3, a4, a5, a6⟩ := jz_down (zlev t w) 1 b.2.2.1 b.1 x D i2 i1 hl
  have hall : ∀ q ∈ b.2.2.1, 1 ≤ zlev t w q.1 := fun q hq => by
    rcases i2 q hq with h | h
    · have := (jz_zlev t w).2.2.2 q.1 ⟨h.1, h.2.1⟩; omega
    · by_cases h13 : q.1 = 13
      · rw [h13, (jz_zlev t w).2.1]; omega
      · exact (jz_zlev t w).2.2.1 q.1 ⟨h.1, by omega⟩
  rw [a6 hall] at a4
  change D' = [] at a4
  subst a4
  obtain ⟨b1, f, s, b2, b3⟩ := a3
  change s = 0 at b3
  subst b3
  refine ⟨y, f, ?_, ?_, ?_⟩
  · rw [a2, i5, i6]; rfl
  · dsimp only; rw [a1]; exact b1
  · dsimp only; rw [a1]; exact b2
/-! There and back: the printed form, accepted, is the same tree in all readings. -/
theorem jz_zgo3 : ∀ (l : List (Nat × Nat × Nat)) (s : Nat × Nat × Nat × Nat × Nat), zgo s l = zgo s (jz_li (l.map jz_pr))
  | [], _ => rfl
  | q :: l, s => by
    show zgo s (q :: l) = zgo s ((q.1, q.2.1, 0) :: jz_li (l.map jz_pr))
    unfold zgo
    cases h : zsy s q.1 with
    | none => rfl
    | some s' => exact jz_zgo3 l s'
theorem jz_bgo3 {t w : Bool} : ∀ (l : List (Nat × Nat × Nat)) (s : Nat × Nat × Nat × Nat × Nat) (b : zBt), zbgo t w s b l = zbgo t w s b (jz_li (l.map jz_pr))
  | [], _, _ => rfl
  | q :: l, s, b => by
    show zbgo t w s b (q :: l) = zbgo t w s b ((q.1, q.2.1, 0) :: jz_li (l.map jz_pr))
    unfold zbgo
    cases h : zsy s q.1 with
    | none => rfl
    | some s' => exact jz_bgo3 l s' _
theorem jz_bld3 {t w : Bool} (l : List (Nat × Nat × Nat)) : zbuild t w l = zbuild t w (jz_li (l.map jz_pr)) := by
  unfold zbuild
  rw [jz_bgo3 l]
/-- the tree comes back -/
theorem jz_back (t w : Bool) {nd : List (Nat × Nat × Nat × Nat)} {f r : Nat} (h : jz_sg nd f 0 r) (hr : r + 1 = nd.length) {l : List (Nat × Nat × Nat)} (hl : l.map jz_pr = jz_tl nd f r) :
    zbuild t w l = (nd.map jz_n, [(0, r)]) ∧ ∃ p, zgo zs0 l = some (3, 0, 0, p, 0) := by
  obtain ⟨p', b', ⟨h1, h2⟩, h3, h4, -, h5⟩ := jz_rb t w nd f 0 r h 0 0 0 0 0 [] [] [] 0 (by omega)
  refine ⟨?_, p', ?_⟩
  · rw [jz_bld3 l, hl]
    unfold zbuild
    have e : zbgo t w zs0 ([], [], [], [], 0) (jz_li (jz_tl nd f r)) = b' := h2
    rw [e, h5 1 (by omega) (by omega), h3, h4]
    have e2 : (nd.map jz_n).take (r + 1) = nd.map jz_n := List.take_of_length_le (by rw [List.length_map]; omega)
    rw [e2]
    rfl
  · rw [jz_zgo3 l, hl]; exact h1
theorem jz_tl_0 {nd : List (Nat × Nat × Nat × Nat)} : ∀ (f s i : Nat), jz_sg nd f s i → ∀ q ∈ jz_tl nd f i, q.1 ≠ 0
  | 0, _, _, h => h.elim
  | f + 1, s, i, h => by
    obtain ⟨⟨k, d, a, c⟩, hq, h⟩ := h
    unfold jz_tl
    rw [hq]
    dsimp only at h ⊢
    intro q hm
    rcases h with ⟨h1, h2, h3⟩ | ⟨h1, h2, h3, h4⟩ | ⟨h1, h2, h3, h4, h5, h6⟩
    · rw [if_pos (by omega)] at hm
      rw [List.mem_singleton.mp hm]; show k ≠ 0; omega
    · rw [if_neg (by omega)] at hm
      have ih := jz_tl_0 f s a h4
      by_cases h6 : k ≤ 6
      · rw [if_pos h6] at hm
        simp only [List.mem_cons, List.mem_append, List.mem_replicate] at hm
        rcases hm with rfl | ⟨-, rfl⟩ | rfl | hm | hm | hm
        · show k ≠ 0; omega
        · decide
        · decide
        · exact ih q hm
        · rw [hm]; decide
        · cases hm
      · rw [if_neg h6, if_pos (by omega)] at hm
        simp only [List.mem_cons, List.mem_append] at hm
        rcases hm with rfl | rfl | hm | hm | hm
        · decide
        · decide
        · exact ih q hm
        · rw [hm]; decide
        · cases hm
    · rw [if_neg (by omega), if_neg (by omega), if_neg (by omega)] at hm
      simp only [List.mem_cons, List.mem_append] at hm
      rcases hm with rfl | hm | rfl | hm | hm | hm
      · decide
      · exact jz_tl_0 f s a h4 q hm
      · show jz_k k ≠ 0; have := jz_k_op h1; omega
      · exact jz_tl_0 f _ c h5 q hm
      · rw [hm]; decide
      · cases hm
theorem jz_tk_id {l : List (Nat × Nat)} (h : ∀ q ∈ l, q.1 ≠ 0) : jz_tk l = l := by
  unfold jz_tk
  exact List.filter_eq_self.mpr (fun q hq => decide_eq_true (h q hq))
/-- the printed text's tokens -/
theorem jz_ptok {nd : List (Nat × Nat × Nat × Nat)} (hok : znok nd) {f r : Nat} (h : jz_sg nd f 0 r) : ∃ g, jz_sg nd g 0 r ∧ (zTK (zprt nd r)).map jz_pr = jz_tl nd g r ∧ ∀ c ∈ zprt nd r, 32 ≤ c ∧ c < 127 := by
  have hg := jz_sg_mono f (f + r + 1) 0 r (by omega) h
  obtain ⟨p1, p2, p3⟩ := jz_prt _ _ _ hg
  have e : zprt nd r = jz_txt (jz_tl nd (f + r + 1) r) := by
    rw [p1]; exact zpr_fuel hok _ _ _ (by omega) (by omega)
  refine ⟨f + r + 1, hg, ?_, ?_⟩
  · show jz_pt (zprt nd r) = _
    rw [e, jz_tokens _ p2 p3, jz_tk_id (jz_tl_0 _ _ _ hg)]
  · rw [e]; exact jz_txt_ok _ p2
theorem jz_zpr_n {nd : List (Nat × Nat × Nat × Nat)} : ∀ (f i : Nat), zpr (nd.map jz_n) f i = zpr nd f i
  | 0, _ => rfl
  | f + 1, i => by
    unfold zpr
    rw [List.getElem?_map]
    cases nd[i]? with
    | none => rfl
    | some q =>
      show (if jz_k q.1 = 1 then zdigs q.2.1 else if jz_k q.1 = 2 then [97 + q.2.1] else if jz_k q.1 ≤ 6 then zsym (jz_k q.1) ++ List.replicate q.2.1 39 ++ [40] ++ (zpr (nd.map jz_n) f q.2.2.1 ++ [41])
        else if jz_k q.1 = 13 then [40, 45] ++ (zpr (nd.map jz_n) f q.2.2.1 ++ [41]) else [40] ++ (zpr (nd.map jz_n) f q.2.2.1 ++ (zsym (jz_k q.1) ++ (zpr (nd.map jz_n) f q.2.2.2 ++ [41])))) = _
      rw [jz_zpr_n f q.2.2.1, jz_zpr_n f q.2.2.2]
      unfold jz_k
      by_cases h : q.1 = 12
      · dsimp only
        rw [if_pos h, h, jz_sym7.2.2.1, jz_sym7.2.2.2.2.2]
        rfl
      · dsimp only
        rw [if_neg h]
def jz_kI (x : Int32) : Int32 := if x = 12 then 9 else x
theorem jz_kindOf {tc : Int32} {tk tk' : Nat → Int32} (h : ∀ j, tk' j = jz_kI (tk j)) (x : Int32) : fn_Tree_kindOf tc tk' x = (fn_Tree_kindOf tc tk x).map jz_kI := by
  unfold fn_Tree_kindOf
  by_cases h1 : fn_Tree_hasNode tc x = 0
  · rw [if_pos h1, if_pos h1]; rfl
  · rw [if_neg h1, if_neg h1]
    by_cases h2 : x < 0 ∨ 160 ≤ x.toNatClampNeg
    · rw [if_pos h2, if_pos h2]; rfl
    · rw [if_neg h2, if_neg h2, h]; rfl
theorem jz_valueOf {tc : Int32} {tk tk' td tl tr g : Nat → Int32} (h : ∀ j, tk' j = jz_kI (tk j)) (st : Int32) (v d : Nat → Int64) (x : Int32) : fn_Eval_valueOfNode st v d tc tk' td tl tr g x = fn_Eval_valueOfNode st v d tc tk td tl tr g x := by
  unfold fn_Eval_valueOfNode
  rw [jz_kindOf h]
  cases fn_Tree_kindOf tc tk x with
  | none => rfl
  | some q1 =>
    simp only [Option.map_some, Option.bind_some]
    by_cases h12 : q1 = 12
    · subst h12
      rw [show jz_kI 12 = 9 from rfl]
      refine congrArg (Option.bind _) (funext fun q3 => congrArg (Option.bind _) (funext fun q5 => congrArg (Option.bind _) (funext fun q7 => congrArg (Option.bind _) (funext fun q9 => congrArg (Option.bind _) (funext fun q11 => ?_)))))
      rw [if_neg (show ¬ (9 : Int32) = 1 by decide), if_neg (show ¬ (9 : Int32) = 2 by decide), if_neg (show ¬ (9 : Int32) = 3 by decide), if_neg (show ¬ (9 : Int32) = 4 by decide), if_neg (show ¬ (9 : Int32) = 5 by decide), if_neg (show ¬ (9 : Int32) = 6 by decide), if_neg (show ¬ (9 : Int32) = 7 by decide), if_neg (show ¬ (9 : Int32) = 8 by decide), if_pos (show (9 : Int32) = 9 from rfl), if_neg (show ¬ (12 : Int32) = 1 by decide), if_neg (show ¬ (12 : Int32) = 2 by decide), if_neg (show ¬ (12 : Int32) = 3 by decide), if_neg (show ¬ (12 : Int32) = 4 by decide), if_neg (show ¬ (12 : Int32) = 5 by decide), if_neg (show ¬ (12 : Int32) = 6 by decide), if_neg (show ¬ (12 : Int32) = 7 by decide), if_neg (show ¬ (12 : Int32) = 8 by decide), if_neg (show ¬ (12 : Int32) = 9 by decide), if_neg (show ¬ (12 : Int32) = 10 by decide), if_neg (show ¬ (12 : Int32) = 11 by decide), if_pos (show (12 : Int32) = 12 from rfl)]
      rfl
    · rw [show jz_kI q1 = q1 from if_neg h12]
      rfl
theorem jz_evl {tc : Int32} {tk tk' td tl tr g : Nat → Int32} (h : ∀ j, tk' j = jz_kI (tk j)) : ∀ (n : Nat) (st : Int32) (v d : Nat → Int64) (x y : Int32), fn_Eval_evaluate_L21 tc tk' td tl tr g n st v d x y = fn_Eval_evaluate_L21 tc tk td tl tr g n st v d x y
  | 0, _, _, _, _, _ => rfl
  | n + 1, st, v, d, x, y => by
    unfold fn_Eval_evaluate_L21
    rw [jz_valueOf h]
    simp only [jz_evl h n]
theorem jz_zrowN {α : Type} {g : α → Int32} {f : α → α} (l : List α) : zrowN g (l.map f) = zrowN (fun a => g (f a)) l := by
  funext j
  unfold zrowN
  rw [List.getElem?_map]
  cases l[j]? <;> rfl
theorem jz_zg (q : Nat × Nat × Nat × Nat) : zgl (jz_n q) = zgl q ∧ zgr (jz_n q) = zgr q := by
  have e : (jz_n q).1 = (if q.1 = 12 then 9 else q.1) ∧ (jz_n q).2 = q.2 := ⟨rfl, rfl⟩
  unfold zgl zgr
  rw [e.1, e.2]
  by_cases h : q.1 = 12
  · rw [if_pos h, h]; exact ⟨rfl, rfl⟩
  · rw [if_neg h]; exact ⟨rfl, rfl⟩
theorem jz_evc {nd : List (Nat × Nat × Nat × Nat)} (hk : ∀ q ∈ nd, q.1 < 25) (g : Nat → Int32) : zevc (nd.map jz_n) g = zevc nd g := by
  unfold zevc fn_Eval_evaluate
  rw [jz_zrowN, jz_zrowN, jz_zrowN, jz_zrowN, List.length_map]
  rw [show (fun a => zgl (jz_n a)) = zgl from funext fun q => (jz_zg q).1, show (fun a => zgr (jz_n a)) = zgr from funext fun q => (jz_zg q).2]
  refine jz_evl (fun j => ?_) _ _ _ _ _ _
  unfold zrowN
  cases hq : nd[j]? with
  | none => rfl
  | some q =>
    have h25 := hk q (List.mem_of_getElem? hq)
    show nI (jz_k q.1) = jz_kI (nI q.1)
    unfold jz_k jz_kI
    by_cases h : q.1 = 12
    · rw [if_pos h, h]; rfl
    · rw [if_neg h, if_neg (show ¬ nI q.1 = 12 from fun e => h ((nI_inj (b := 12) (by omega) (by omega)).mp e))]
theorem jz_st_n {nd : List (Nat × Nat × Nat × Nat)} (hk : ∀ q ∈ nd, q.1 < 25) (S : List (Nat × Nat)) (g : Nat → Int32) : zvst (nd.map jz_n) g = zvst nd g ∧ zvou (nd.map jz_n) S g = zvou nd S g := by
  have e1 : zvst (nd.map jz_n) g = zvst nd g := by unfold zvst; rw [jz_evc hk]
  have e2 : zvvl (nd.map jz_n) g = zvvl nd g := by unfold zvvl; rw [jz_evc hk]
  refine ⟨e1, ?_⟩
  unfold zvou
  rw [e1, e2]
/-! Heights as numbers; one tree, one outcome; the least solution. -/
def jz_h (nd : List (Nat × Nat × Nat × Nat)) : Nat → Nat → Nat
  | 0, _ => 0
  | f + 1, i => match nd[i]? with
    | none => 0
    | some q => 1 + max (if q.1 ≤ 2 then 0 else jz_h nd f q.2.2.1) (if 7 ≤ q.1 ∧ q.1 ≤ 12 then jz_h nd f q.2.2.2 else 0)
theorem jz_h_fuel {nd : List (Nat × Nat × Nat × Nat)} (h : znok nd) : ∀ (f g i : Nat), i < f → i < g → jz_h nd f i = jz_h nd g i
  | 0, _, _, h, _ => absurd h (Nat.not_lt_zero _)
  | _ + 1, 0, _, _, h => absurd h (Nat.not_lt_zero _)
  | f + 1, g + 1, i, h1, h2 => by
    unfold jz_h
    cases hq : nd[i]? with
    | none => rfl
    | some q =>
      obtain ⟨l1, l2, l3, l4⟩ := znk_lt (h i q hq)
      dsimp only
      have e1 : (if q.1 ≤ 2 then 0 else jz_h nd f q.2.2.1) = (if q.1 ≤ 2 then 0 else jz_h nd g q.2.2.1) := by
        by_cases h2 : q.1 ≤ 2
        · rw [if_pos h2, if_pos h2]
        · have := l1 h2
          rw [if_neg h2, if_neg h2, jz_h_fuel h f g q.2.2.1 (by omega) (by omega)]
      have e2 : (if 7 ≤ q.1 ∧ q.1 ≤ 12 then jz_h nd f q.2.2.2 else 0) = (if 7 ≤ q.1 ∧ q.1 ≤ 12 then jz_h nd g q.2.2.2 else 0) := by
        by_cases h2 : 7 ≤ q.1 ∧ q.1 ≤ 12
        · have := l2 h2
          rw [if_pos h2, if_pos h2, jz_h_fuel h f g q.2.2.2 (by omega) (by omega)]
        · rw [if_neg h2, if_neg h2]
      rw [e1, e2]
def jz_ht (nd : List (Nat × Nat × Nat × Nat)) (i : Nat) : Nat := jz_h nd (i + 1) i
theorem jz_ht_eq {nd : List (Nat × Nat × Nat × Nat)} (h : znok nd) {i : Nat} {q : Nat × Nat × Nat × Nat} (hq : nd[i]? = some q) : jz_ht nd i = 1 + max (if q.1 ≤ 2 then 0 else jz_ht nd q.2.2.1) (if 7 ≤ q.1 ∧ q.1 ≤ 12 then jz_ht nd q.2.2.2 else 0) := by
  obtain ⟨l1, l2, l3, l4⟩ := znk_lt (h i q hq)
  show jz_h nd (i + 1) i = _
  rw [jz_h, hq]
  dsimp only
  unfold jz_ht
  have e1 : (if q.1 ≤ 2 then 0 else jz_h nd i q.2.2.1) = (if q.1 ≤ 2 then 0 else jz_h nd (q.2.2.1 + 1) q.2.2.1) := by
    by_cases h2 : q.1 ≤ 2
    · rw [if_pos h2, if_pos h2]
    · have := l1 h2
      rw [if_neg h2, if_neg h2, jz_h_fuel h i (q.2.2.1 + 1) q.2.2.1 (by omega) (by omega)]
  have e2 : (if 7 ≤ q.1 ∧ q.1 ≤ 12 then jz_h nd i q.2.2.2 else 0) = (if 7 ≤ q.1 ∧ q.1 ≤ 12 then jz_h nd (q.2.2.2 + 1) q.2.2.2 else 0) := by
    by_cases h2 : 7 ≤ q.1 ∧ q.1 ≤ 12
    · have := l2 h2
      rw [if_pos h2, if_pos h2, jz_h_fuel h i (q.2.2.2 + 1) q.2.2.2 (by omega) (by omega)]
    · rw [if_neg h2, if_neg h2]
  rw [e1, e2]
/-- the greatest of the first n heights -/
def jz_H (nd : List (Nat × Nat × Nat × Nat)) : Nat → Nat
  | 0 => 0
  | n + 1 => max (jz_H nd n) (jz_ht nd n)
theorem jz_ht_le {nd : List (Nat × Nat × Nat × Nat)} (h : znok nd) : ∀ (n i : Nat), i < n → i < nd.length → jz_ht nd i ≤ i + 1
  | 0, _, h, _ => absurd h (Nat.not_lt_zero _)
  | n + 1, i, hn, hi => by
    have hq := List.getElem?_eq_getElem hi
    obtain ⟨l1, l2, l3, l4⟩ := znk_lt (h i _ hq)
    rw [jz_ht_eq h hq]
    have a1 : (if nd[i].1 ≤ 2 then 0 else jz_ht nd nd[i].2.2.1) ≤ i := by
      split
      · omega
      · rename_i h2
        have := l1 h2
        have := jz_ht_le h n nd[i].2.2.1 (by omega) (by omega)
        omega
    have a2 : (if 7 ≤ nd[i].1 ∧ nd[i].1 ≤ 12 then jz_ht nd nd[i].2.2.2 else 0) ≤ i := by
      split
      · rename_i h2
        have := l2 h2
        have := jz_ht_le h n nd[i].2.2.2 (by omega) (by omega)
        omega
      · omega
    omega
theorem jz_H_le {nd : List (Nat × Nat × Nat × Nat)} (h : znok nd) : ∀ n, n ≤ nd.length → jz_H nd n ≤ n
  | 0, _ => Nat.le_refl _
  | n + 1, hn => by
    have a := jz_H_le h n (by omega)
    have b := jz_ht_le h (n + 1) n (by omega) (by omega)
    unfold jz_H
    omega
theorem jz_zmx {a b : Nat} (ha : a < 2 ^ 31) (hb : b < 2 ^ 31) : zmx (nI a) (nI b) = nI (max a b) := by
  unfold zmx
  by_cases h : a < b
  · rw [if_pos ((nI_lti ha hb).mpr h), Nat.max_eq_right (by omega)]
  · rw [if_neg (fun hh => h ((nI_lti ha hb).mp hh)), Nat.max_eq_left (by omega)]
section HT
variable {tc : Int32} {tk td tl tr : Nat → Int32} {nd : List (Nat × Nat × Nat × Nat)}
theorem jz_hloop (hc : zct tc tk td tl tr nd) (hok : znok nd) : ∀ (n i : Nat) (th : Nat → Int32), i ≤ nd.length → nd.length - i < n → (∀ j, j < i → th j = nI (jz_ht nd j)) → zwp (fn_Tree_greatestHeight_L4 tc tl tr n th (nI (jz_H nd i)) (nI i)) (fun r => r.1 = nI (jz_H nd nd.length))
  | 0, _, _, _, h, _ => absurd h (Nat.not_lt_zero _)
  | n + 1, i, th, hi, hn, hh => by
    have hcap := hc.2.1
    unfold fn_Tree_greatestHeight_L4
    by_cases he : i = nd.length
    · refine zwp_t (by rw [hc.1]; exact nI_le (by omega) (by omega)) (zwp_some ?_)
      rw [he]
    · have hlt : i < nd.length := by omega
      have hq := List.getElem?_eq_getElem hlt
      obtain ⟨l1, l2, l3, l4⟩ := znk_lt (hok i _ hq)
      have hb1 := nI_in2 (c := i) (N := 160) (by omega) (by omega)
      have htc := hc.1
      obtain ⟨-, -, c3, c4, c5, c6⟩ := hc
      have el : fn_Tree_heightOf tc th (zgl nd[i]) = some (nI (if nd[i].1 ≤ 2 then 0 else jz_ht nd nd[i].2.2.1)) := by
        unfold zgl
        by_cases h2 : nd[i].1 ≤ 2
        · rw [if_pos h2, if_pos h2]; exact (sp_heightOf htc hcap hlt).2
        · have := l1 h2
          rw [if_neg h2, if_neg h2, (sp_heightOf htc hcap (by omega)).1, hh _ this]
      have er : fn_Tree_heightOf tc th (zgr nd[i]) = some (nI (if 7 ≤ nd[i].1 ∧ nd[i].1 ≤ 12 then jz_ht nd nd[i].2.2.2 else 0)) := by
        unfold zgr
        by_cases h2 : 7 ≤ nd[i].1 ∧ nd[i].1 ≤ 12
        · have := l2 h2
          rw [if_pos h2, if_pos h2, (sp_heightOf htc hcap (by omega)).1, hh _ this]
        · rw [if_neg h2, if_neg h2]; exact (sp_heightOf htc hcap hlt).2
      refine zwp_f (by rw [htc]; exact nI_ge hlt (by omega)) ?_
      rw [nI_clamp (show i < 2 ^ 31 by omega)]
      refine zwp_f hb1 ?_
      rw [c5 i _ hq, el, Option.bind_some]
      refine zwp_f hb1 ?_
      rw [c6 i _ hq, er, Option.bind_some]
      refine zwp_f hb1 (zwp_f hb1 ?_)
      have ha1 := jz_ht_le hok (i + 1) i (by omega) hlt
      have ha2 := jz_H_le hok i (by omega)
      have ht := jz_ht_eq hok hq
      have hmax : (1 : Int32) + (if nI (if nd[i].1 ≤ 2 then 0 else jz_ht nd nd[i].2.2.1) < nI (if 7 ≤ nd[i].1 ∧ nd[i].1 ≤ 12 then jz_ht nd nd[i].2.2.2 else 0) then nI (if 7 ≤ nd[i].1 ∧ nd[i].1 ≤ 12 then jz_ht nd nd[i].2.2.2 else 0) else nI (if nd[i].1 ≤ 2 then 0 else jz_ht nd nd[i].2.2.1)) = nI (jz_ht nd i) := by
        show (1 : Int32) + zmx _ _ = _
        rw [jz_zmx (by omega) (by omega), ht, show (1 : Int32) = nI 1 from rfl, nI_add]
      rw [hmax, upd_at, nI_add1]
      have hx : (if nI (jz_H nd i) < nI (jz_ht nd i) then nI (jz_ht nd i) else nI (jz_H nd i)) = nI (jz_H nd (i + 1)) := by
        show zmx _ _ = _
        rw [jz_zmx (by omega) (by omega)]; rfl
      rw [hx]
      exact jz_hloop ⟨htc, hcap, c3, c4, c5, c6⟩ hok n (i + 1) _ hlt (by omega) (fun j hj => by
        by_cases hji : j = i
        · rw [hji, upd_at]
        · rw [upd_ne hji]; exact hh j (by omega))
theorem jz_sp_height (hc : zct tc tk td tl tr nd) (hok : znok nd) (th : Nat → Int32) : zwp (fn_Tree_greatestHeight tc tl tr th) (fun r => r.1 = nI (jz_H nd nd.length)) :=
  jz_hloop hc hok zFU 0 th (Nat.zero_le _) (Nat.lt_of_le_of_lt (by have := hc.2.1; omega : nd.length - 0 ≤ 160) (by decide)) (fun j hj => absurd hj (Nat.not_lt_zero _))
end HT
theorem jz_h_n {nd : List (Nat × Nat × Nat × Nat)} : ∀ (f i : Nat), jz_h (nd.map jz_n) f i = jz_h nd f i
  | 0, _ => rfl
  | f + 1, i => by
    unfold jz_h
    rw [List.getElem?_map]
    cases nd[i]? with
    | none => rfl
    | some q =>
      show 1 + max (if jz_k q.1 ≤ 2 then 0 else jz_h (nd.map jz_n) f q.2.2.1) (if 7 ≤ jz_k q.1 ∧ jz_k q.1 ≤ 12 then jz_h (nd.map jz_n) f q.2.2.2 else 0) = _
      rw [jz_h_n f, jz_h_n f]
      unfold jz_k
      by_cases h : q.1 = 12
      · dsimp only; rw [if_pos h, h]; rfl
      · dsimp only; rw [if_neg h]
theorem jz_H_n {nd : List (Nat × Nat × Nat × Nat)} : ∀ n, jz_H (nd.map jz_n) n = jz_H nd n
  | 0 => rfl
  | n + 1 => by
    unfold jz_H jz_ht
    rw [jz_H_n n, jz_h_n]
/-! counts -/
theorem jz_zfr {e1 e2 : Nat → Nat → Bool} (h : ∀ x y, e1 x y = true → e2 x y = true) (x : Nat) : ∀ j, zfr e2 x j = true → zfr e1 x j = true
  | 0, _ => rfl
  | j + 1, hj => by
    unfold zfr at hj ⊢
    rw [Bool.and_eq_true] at hj ⊢
    refine ⟨jz_zfr h x j hj.1, ?_⟩
    cases hb : e1 x j with
    | false => rfl
    | true => have := hj.2; rw [h x j hb] at this; cases this
theorem jz_zcn {e1 e2 : Nat → Nat → Bool} (h : ∀ x y, e1 x y = true → e2 x y = true) : ∀ n, zcn e2 n ≤ zcn e1 n
  | 0 => Nat.le_refl _
  | n + 1 => by
    have := jz_zcn h n
    unfold zcn
    by_cases h2 : zfr e2 n n = true
    · rw [if_pos h2, if_pos (jz_zfr h n n h2)]; omega
    · rw [if_neg h2]; split <;> omega
theorem jz_zcn_pos (e : Nat → Nat → Bool) : ∀ n, 1 ≤ zcn e (n + 1)
  | 0 => Nat.le_refl _
  | n + 1 => by
    have := jz_zcn_pos e n
    rw [zcn]; omega
theorem jz_zcn_1 {e : Nat → Nat → Bool} (h : ∀ x y, e x y = true) : ∀ n, zcn e (n + 1) = 1
  | 0 => rfl
  | n + 1 => by
    rw [zcn, jz_zcn_1 h n]
    have : zfr e (n + 1) (n + 1) = false := by
      unfold zfr; rw [h]; exact Bool.and_false _
    rw [this]; rfl
/-! the least solution -/
theorem jz_sch (ok : Nat → Bool) : ∀ (m k : Nat), zsch ok m k = -3 ∨ ∃ a, k ≤ a ∧ a < k + m ∧ zsch ok m k = nI a ∧ ok a = true
  | 0, _ => Or.inl rfl
  | m + 1, k => by
    unfold zsch
    by_cases h : ok k = true
    · rw [if_pos h]; exact Or.inr ⟨k, Nat.le_refl _, by omega, rfl, h⟩
    · rw [if_neg h]
      rcases jz_sch ok m (k + 1) with h1 | ⟨a, h1, h2, h3, h4⟩
      · exact Or.inl h1
      · exact Or.inr ⟨a, by omega, by omega, h3, h4⟩
theorem jz_sch_at {ok : Nat → Bool} {m k : Nat} (h : ok k = true) (hm : 0 < m) : zsch ok m k = nI k := by
  cases m with
  | zero => omega
  | succ m => unfold zsch; rw [if_pos h]
theorem jz_upd2 {g : Nat → Int32} {x : Nat} {a b : Int32} : upd (upd g x a) x b = upd g x b := by
  funext j
  by_cases h : j = x
  · rw [h, upd_at, upd_at]
  · rw [upd_ne h, upd_ne h, upd_ne h]
theorem jz_zok_upd (nd : List (Nat × Nat × Nat × Nat)) (S : List (Nat × Nat)) (g : Nat → Int32) (x : Nat) (a : Int32) : zok nd S (upd g x a) x = zok nd S g x := by
  funext k
  unfold zok
  rw [jz_upd2]
/-! A formula without brackets and relations, and what is made of its printed form. -/
/-- tokens of such a formula -/
def jz_G (l : List (Nat × Nat × Nat)) : Prop := (∀ q ∈ l.map jz_pr, jz_tg q) ∧ jz_adj false (l.map jz_pr) ∧ zform l ∧ (∀ q ∈ l, ztd q)
/-- its tree in a reading: one sum -/
theorem jz_tree {l : List (Nat × Nat × Nat)} (h : jz_G l) (rd : Nat) : ∃ r f, zSu l rd = [(0, r)] ∧ r + 1 = (zNd l rd).length ∧ jz_sg (zNd l rd) f 0 r ∧ znok (zNd l rd) ∧ zPx l rd = zprt (zNd l rd) r ∧ ∀ q ∈ zNd l rd, q.1 < 25 := by
  obtain ⟨h1, h2, h3, h4⟩ := h
  obtain ⟨⟨s, g1, g2⟩, g3, g4⟩ := h3
  have hg : zgo zs0 (jz_li (l.map jz_pr)) = some s := by rw [← jz_zgo3 l]; exact g1
  obtain ⟨r, f, e1, e2, e3⟩ := jz_one (zrt_t rd) (zrt_w rd) h1 h2 hg g2.1
  rw [← jz_bld3 l] at e1 e2 e3
  have hok : znok (zNd l rd) := (zbuild_good (t := zrt_t rd) (w := zrt_w rd) ⟨⟨s, g1, g2⟩, g3, g4⟩ h4).1
  have hS : zSu l rd = [(0, r)] := by unfold zSu; rw [e1]
  refine ⟨r, f, hS, e2, e3, hok, ?_, fun q hq => ?_⟩
  · unfold zPx
    rw [hS]
    show [] ++ (zprt (zNd l rd) r ++ []) = _
    rw [List.nil_append, List.append_nil]
  · obtain ⟨i, hi, he⟩ := List.mem_iff_getElem.mp hq
    obtain ⟨-, -, -, l4⟩ := znk_lt (hok i q (by rw [List.getElem?_eq_getElem hi, he]))
    omega
/-- the printed form's tokens make the same tree in every reading -/
theorem jz_trip {l : List (Nat × Nat × Nat)} (h : jz_G l) (rd : Nat) : zaccB (zPx l rd) = true ∧ (∀ c ∈ zPx l rd, 32 ≤ c ∧ c < 127) ∧ zbad zs0 (zTK (zPx l rd)) = none ∧
    ∀ rd', zNd (zTK (zPx l rd)) rd' = (zNd l rd).map jz_n ∧ zSu (zTK (zPx l rd)) rd' = zSu l rd ∧ zPx (zTK (zPx l rd)) rd' = zPx l rd := by
  obtain ⟨r, f, e1, e2, e3, hok, e4, hk⟩ := jz_tree h rd
  obtain ⟨g, g1, g2, g3⟩ := jz_ptok hok e3
  rw [e4]
  obtain ⟨-, p, b2⟩ := jz_back true true g1 e2 g2
  refine ⟨?_, g3, zbad_none b2, fun rd' => ?_⟩
  · unfold zaccB; rw [b2]; rfl
  · obtain ⟨b1, -⟩ := jz_back (zrt_t rd') (zrt_w rd') g1 e2 g2
    have a1 : zNd (zTK (zprt (zNd l rd) r)) rd' = (zNd l rd).map jz_n := by show (zbuild _ _ _).1 = _; rw [b1]
    have a2 : zSu (zTK (zprt (zNd l rd) r)) rd' = zSu l rd := by show (zbuild _ _ _).2 = _; rw [b1, e1]
    refine ⟨a1, a2, ?_⟩
    unfold zPx
    rw [a1, a2, e1]
    show [] ++ (zprt ((zNd l rd).map jz_n) r ++ []) = _
    rw [List.nil_append, List.append_nil]
    exact jz_zpr_n _ _
/-- equal printed forms have equal outcomes -/
theorem jz_same {l : List (Nat × Nat × Nat)} (h : jz_G l) (g : Nat → Int32) {x y : Nat} (e : zPx l x = zPx l y) : zsO l g x = zsO l g y ∧ zoO l g x = zoO l g y := by
  obtain ⟨-, -, -, a⟩ := jz_trip h x
  obtain ⟨-, -, -, b⟩ := jz_trip h y
  obtain ⟨a1, a2, -⟩ := a 0
  obtain ⟨b1, b2, -⟩ := b 0
  rw [e] at a1 a2
  obtain ⟨_, _, _, _, _, _, _, kx⟩ := jz_tree h x
  obtain ⟨_, _, _, _, _, _, _, ky⟩ := jz_tree h y
  unfold zsO zoO
  rw [← (jz_st_n kx (zSu l x) g).1, ← (jz_st_n kx (zSu l x) g).2, ← (jz_st_n ky (zSu l y) g).1, ← (jz_st_n ky (zSu l y) g).2, ← a1, ← b1, ← a2, ← b2]
  exact ⟨rfl, rfl⟩
theorem jz_counts {l : List (Nat × Nat × Nat)} (h : jz_G l) (g : Nat → Int32) : zcn (zeqO l g) 4 ≤ zcn (zeqP (zPx l)) 4 ∧ 1 ≤ zcn (zeqP (zPx l)) 4 := by
  refine ⟨jz_zcn (fun x y hxy => ?_) 4, jz_zcn_pos _ 3⟩
  have := jz_same h g (of_decide_eq_true hxy)
  exact decide_eq_true this
/-- the printed form's own trees and outcomes -/
theorem jz_again {l : List (Nat × Nat × Nat)} (h : jz_G l) (rd : Nat) (g : Nat → Int32) :
    zcn (zeqP (zPx (zTK (zPx l rd)))) 4 = 1 ∧ zcn (zeqO (zTK (zPx l rd)) g) 4 = 1 ∧ ∀ rd', zsO (zTK (zPx l rd)) g rd' = zsO l g rd ∧ zoO (zTK (zPx l rd)) g rd' = zoO l g rd ∧ (zNd (zTK (zPx l rd)) rd').length = (zNd l rd).length ∧ jz_H (zNd (zTK (zPx l rd)) rd') (zNd (zTK (zPx l rd)) rd').length = jz_H (zNd l rd) (zNd l rd).length ∧ (zPx (zTK (zPx l rd)) rd').length = (zPx l rd).length := by
  obtain ⟨_, _, _, _, _, _, _, hk⟩ := jz_tree h rd
  obtain ⟨-, -, -, a⟩ := jz_trip h rd
  have key : ∀ rd', zsO (zTK (zPx l rd)) g rd' = zsO l g rd ∧ zoO (zTK (zPx l rd)) g rd' = zoO l g rd := fun rd' => by
    obtain ⟨a1, a2, -⟩ := a rd'
    unfold zsO zoO
    rw [a1, a2]
    exact jz_st_n hk _ g
  refine ⟨jz_zcn_1 (fun x y => ?_) 3, jz_zcn_1 (fun x y => ?_) 3, fun rd' => ?_⟩
  · exact decide_eq_true (by rw [(a x).2.2, (a y).2.2])
  · exact decide_eq_true (by rw [(key x).1, (key x).2, (key y).1, (key y).2]; exact ⟨rfl, rfl⟩)
  · obtain ⟨a1, a2, a3⟩ := a rd'
    refine ⟨(key rd').1, (key rd').2, by rw [a1, List.length_map], by rw [a1, List.length_map, jz_H_n], by rw [a3]⟩
/-! The spoken text is well formed. -/
def jz_sg1 (c : Nat) : Bool := decide (c = 32) || (decide (48 ≤ c) && decide (c < 58)) || (decide (97 ≤ c) && decide (c < 123))
/-- what the law counts over a text: the character before, the open pairs -/
def jz_run : Nat → Nat → List Nat → Option (Nat × Nat)
  | b, o, [] => some (b, o)
  | b, o, c :: t => if jz_sg1 c = true ∧ (c ≠ 32 ∨ b ≠ 32) then
      (if c = 112 ∧ b = 111 ∧ t.getD 0 0 = 101 ∧ t.getD 1 0 = 110 then jz_run c (o + 1) t
       else if c = 108 ∧ b = 99 ∧ t.getD 0 0 = 111 ∧ t.getD 1 0 = 115 then (if 0 < o then jz_run c (o - 1) t else none)
       else jz_run c o t) else none
theorem jz_run_c {b o c : Nat} {t : List Nat} (hs : jz_sg1 c = true) (h0 : c ≠ 32 ∨ b ≠ 32) (h1 : ¬ (c = 112 ∧ b = 111)) (h2 : ¬ (c = 108 ∧ b = 99)) : jz_run b o (c :: t) = jz_run c o t := by
  rw [jz_run, if_pos ⟨hs, h0⟩, if_neg (fun h => h1 ⟨h.1, h.2.1⟩), if_neg (fun h => h2 ⟨h.1, h.2.1⟩)]
/-- a row of characters that opens and closes nothing -/
def jz_w : Nat → List Nat → Bool
  | _, [] => true
  | b, c :: t => jz_sg1 c && (decide (c ≠ 32) || decide (b ≠ 32)) && !(decide (c = 112) && decide (b = 111)) && !(decide (c = 108) && decide (b = 99)) && jz_w c t
def jz_lst : Nat → List Nat → Nat
  | b, [] => b
  | _, c :: t => jz_lst c t
theorem jz_run_w {o : Nat} {rest : List Nat} : ∀ (w : List Nat) (b : Nat), jz_w b w = true → jz_run b o (w ++ rest) = jz_run (jz_lst b w) o rest
  | [], _, _ => rfl
  | c :: t, b, h => by
    unfold jz_w at h
    simp only [Bool.and_eq_true, Bool.or_eq_true, Bool.not_eq_true', Bool.and_eq_false_iff, decide_eq_true_eq, decide_eq_false_iff_not] at h
    obtain ⟨⟨⟨⟨a1, a2⟩, a3⟩, a4⟩, a5⟩ := h
    show jz_run b o (c :: (t ++ rest)) = _
    rw [jz_run_c a1 a2 (fun h => by rcases a3 with h3 | h3; exact h3 h.1; exact h3 h.2) (fun h => by rcases a4 with h3 | h3; exact h3 h.1; exact h3 h.2)]
    exact jz_run_w t c a5
theorem jz_open {o : Nat} {rest : List Nat} : jz_run 32 o ([111, 112, 101, 110, 32] ++ rest) = jz_run 32 (o + 1) rest := by
  show jz_run 32 o (111 :: 112 :: 101 :: 110 :: 32 :: rest) = _
  rw [jz_run_c (by decide) (Or.inl (by decide)) (by decide) (by decide), jz_run, if_pos ⟨by decide, Or.inl (by decide)⟩, if_pos ⟨rfl, rfl, rfl, rfl⟩]
  rw [jz_run_c (by decide) (Or.inl (by decide)) (by decide) (by decide), jz_run_c (by decide) (Or.inl (by decide)) (by decide) (by decide), jz_run_c (by decide) (Or.inr (by decide)) (by decide) (by decide)]
theorem jz_close {b o : Nat} (hb : b ≠ 32) {rest : List Nat} : jz_run b (o + 1) ([32, 99, 108, 111, 115, 101] ++ rest) = jz_run 101 o rest := by
  show jz_run b (o + 1) (32 :: 99 :: 108 :: 111 :: 115 :: 101 :: rest) = _
  rw [jz_run_c (by decide) (Or.inr hb) (fun h => absurd h.1 (by decide)) (fun h => absurd h.1 (by decide)), jz_run_c (by decide) (Or.inl (by decide)) (by decide) (by decide)]
  rw [jz_run, if_pos ⟨by decide, Or.inl (by decide)⟩, if_neg (fun h => absurd h.1 (by decide)), if_pos ⟨rfl, rfl, rfl, rfl⟩, if_pos (Nat.succ_pos o), Nat.add_sub_cancel]
  rw [jz_run_c (by decide) (Or.inl (by decide)) (by decide) (by decide), jz_run_c (by decide) (Or.inl (by decide)) (by decide) (by decide), jz_run_c (by decide) (Or.inl (by decide)) (by decide) (by decide)]
theorem jz_words : zword 33 = [111, 112, 101, 110, 32] ∧ zword 37 = [32, 99, 108, 111, 115, 101] ∧ zword 36 = [32, 111, 102, 32] ∧ zword 35 = [32, 112, 114, 105, 109, 101] ∧ zword 34 = [109, 105, 110, 117, 115, 32] := by decide +kernel
theorem jz_fw3 : ∀ k, k < 7 → 3 ≤ k → jz_w 32 (zsym k) = true ∧ jz_lst 32 (zsym k) ≠ 32 := by decide +kernel
theorem jz_bw : ∀ k, k < 13 → 7 ≤ k → jz_w 32 (zwrd k ++ [32]) = true ∧ jz_lst 32 (zwrd k ++ [32]) = 32 := by decide +kernel
theorem jz_primes_run {o : Nat} {rest : List Nat} : ∀ (p b : Nat), b ≠ 32 → ∃ b', b' ≠ 32 ∧ jz_run b o (zprs p ++ rest) = jz_run b' o rest
  | 0, b, h => ⟨b, h, rfl⟩
  | p + 1, b, h => by
    have e : zprs (p + 1) ++ rest = 32 :: ([112, 114, 105, 109, 101] ++ (zprs p ++ rest)) := by
      show (zword 35 ++ zprs p) ++ rest = _
      rw [jz_words.2.2.2.1, List.append_assoc]; rfl
    obtain ⟨b', h1, h2⟩ := jz_primes_run (o := o) (rest := rest) p 101 (by decide)
    refine ⟨b', h1, ?_⟩
    rw [e, jz_run_c (by decide) (Or.inr h) (fun h => absurd h.1 (by decide)) (fun h => absurd h.1 (by decide)), jz_run_w _ _ (by decide)]
    exact h2
theorem jz_speak {nd : List (Nat × Nat × Nat × Nat)} (hok : znok nd) : ∀ (f s i : Nat), jz_sg nd f s i → ∀ (bf : Bool) (o : Nat) (rest : List Nat), ∃ b', b' ≠ 32 ∧ jz_run 32 o (zvc nd bf i ++ rest) = jz_run b' o rest
  | 0, _, _, h => h.elim
  | f + 1, s, i, h => by
    intro bf o rest
    obtain ⟨⟨k, d, a, c⟩, hq, h⟩ := h
    obtain ⟨w33, w37, w36, w35, w34⟩ := jz_words
    rw [zvc_eq hok bf hq]
    dsimp only at h ⊢
    rcases h with ⟨h1, h2, h3⟩ | ⟨h1, h2, h3, h4⟩ | ⟨h1, h2, h3, h4, h5, h6⟩
    · rcases h1 with ⟨h1, h1'⟩ | ⟨h1, h1', h1''⟩
      · rw [if_pos h1, jz_digs h1']
        refine ⟨48 + d, by omega, jz_run_c (t := rest) ?_ (Or.inl (by omega)) (fun h => by omega) (fun h => by omega)⟩
        unfold jz_sg1; simp; omega
      · rw [if_neg (by omega), if_pos h1]
        refine ⟨97 + d, by omega, jz_run_c (t := rest) ?_ (Or.inl (by omega)) (fun h => by omega) (fun h => by omega)⟩
        unfold jz_sg1; simp; omega
    · rw [if_neg (by omega), if_neg (by omega)]
      by_cases h6 : k ≤ 6
      · rw [if_pos h6, w36]
        obtain ⟨x1, x2⟩ := jz_fw3 k (by omega) (by omega)
        obtain ⟨b', y1, y2⟩ := jz_primes_run (o := o) (rest := [32, 111, 102, 32] ++ (zvc nd true a ++ rest)) d _ x2
        obtain ⟨b2, z1, z2⟩ := jz_speak hok f s a h4 true o rest
        refine ⟨b2, z1, ?_⟩
        rw [show (zsym k ++ (zprs d ++ ([32, 111, 102, 32] ++ zvc nd true a))) ++ rest = zsym k ++ (zprs d ++ ([32, 111, 102, 32] ++ (zvc nd true a ++ rest))) by simp only [List.append_assoc]]
        rw [jz_run_w _ _ x1, y2]
        show jz_run b' o (32 :: ([111, 102, 32] ++ (zvc nd true a ++ rest))) = _
        rw [jz_run_c (by decide) (Or.inr y1) (fun h => absurd h.1 (by decide)) (fun h => absurd h.1 (by decide)), jz_run_w _ _ (by decide)]
        exact z2
      · rw [if_neg h6, if_pos (show k = 13 by omega), w33, w34, w37]
        cases bf with
        | false =>
          obtain ⟨b2, z1, z2⟩ := jz_speak hok f s a h4 true o rest
          refine ⟨b2, z1, ?_⟩
          rw [if_neg (show ¬ (false = true) by decide), if_neg (show ¬ (false = true) by decide), List.nil_append, List.append_nil, List.append_assoc, jz_run_w _ _ (by decide)]
          exact z2
        | true =>
          obtain ⟨b2, z1, z2⟩ := jz_speak hok f s a h4 true (o + 1) ([32, 99, 108, 111, 115, 101] ++ rest)
          refine ⟨101, by decide, ?_⟩
          rw [if_pos (show true = true from rfl), if_pos (show true = true from rfl)]
          rw [show ([111, 112, 101, 110, 32] ++ (([109, 105, 110, 117, 115, 32] ++ zvc nd true a) ++ [32, 99, 108, 111, 115, 101])) ++ rest = [111, 112, 101, 110, 32] ++ ([109, 105, 110, 117, 115, 32] ++ (zvc nd true a ++ ([32, 99, 108, 111, 115, 101] ++ rest))) by simp only [List.append_assoc]]
          rw [jz_open, jz_run_w _ _ (by decide)]
          show jz_run 32 (o + 1) _ = _
          rw [z2, jz_close z1]
    · rw [if_neg (show ¬ k = 1 by omega), if_neg (show ¬ k = 2 by omega), if_neg (show ¬ k ≤ 6 by omega), if_neg (show ¬ k = 13 by omega), w33, w37]
      obtain ⟨x1, x2⟩ := jz_bw k (by omega) (by omega)
      cases bf with
      | false =>
        obtain ⟨b3, u1, u2⟩ := jz_speak hok f _ c h5 true o rest
        obtain ⟨b2, z1, z2⟩ := jz_speak hok f s a h4 true o (32 :: ((zwrd k ++ [32]) ++ (zvc nd true c ++ rest)))
        refine ⟨b3, u1, ?_⟩
        rw [if_neg (show ¬ (false = true) by decide), if_neg (show ¬ (false = true) by decide), List.nil_append, List.append_nil]
        rw [show (zvc nd true a ++ 32 :: (zwrd k ++ 32 :: zvc nd true c)) ++ rest = zvc nd true a ++ (32 :: ((zwrd k ++ [32]) ++ (zvc nd true c ++ rest))) by simp]
        rw [z2, jz_run_c (by decide) (Or.inr z1) (fun h => absurd h.1 (by decide)) (fun h => absurd h.1 (by decide)), jz_run_w _ _ x1, x2]
        exact u2
      | true =>
        obtain ⟨b3, u1, u2⟩ := jz_speak hok f _ c h5 true (o + 1) ([32, 99, 108, 111, 115, 101] ++ rest)
        obtain ⟨b2, z1, z2⟩ := jz_speak hok f s a h4 true (o + 1) (32 :: ((zwrd k ++ [32]) ++ (zvc nd true c ++ ([32, 99, 108, 111, 115, 101] ++ rest))))
        refine ⟨101, by decide, ?_⟩
        rw [if_pos (show true = true from rfl), if_pos (show true = true from rfl)]
        rw [show ([111, 112, 101, 110, 32] ++ ((zvc nd true a ++ 32 :: (zwrd k ++ 32 :: zvc nd true c)) ++ [32, 99, 108, 111, 115, 101])) ++ rest = [111, 112, 101, 110, 32] ++ (zvc nd true a ++ (32 :: ((zwrd k ++ [32]) ++ (zvc nd true c ++ ([32, 99, 108, 111, 115, 101] ++ rest))))) by simp]
        rw [jz_open, z2, jz_run_c (by decide) (Or.inr z1) (fun h => absurd h.1 (by decide)) (fun h => absurd h.1 (by decide)), jz_run_w _ _ x1, x2, u2, jz_close u1]
/-- the spoken text of such a formula -/
theorem jz_spoken {l : List (Nat × Nat × Nat)} (h : jz_G l) (rd : Nat) : ∃ b, b ≠ 32 ∧ jz_run 32 0 (zVx l rd) = some (b, 0) := by
  obtain ⟨r, f, e1, e2, e3, hok, e4, hk⟩ := jz_tree h rd
  obtain ⟨b, b1, b2⟩ := jz_speak hok f 0 r e3 false 0 []
  refine ⟨b, b1, ?_⟩
  unfold zVx
  rw [e1]
  show jz_run 32 0 ([] ++ (zvc (zNd l rd) false r ++ [])) = _
  rw [List.nil_append, b2]; rfl
