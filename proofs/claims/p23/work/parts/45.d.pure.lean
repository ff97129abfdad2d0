/-! What a tree costs, by a cost for each node. -/
def zT (c : Nat → Nat → Nat) (nd : List (Nat × Nat × Nat × Nat)) : Nat → Nat → Nat
  | 0, _ => 0
  | f + 1, i => match nd[i]? with
    | none => 0
    | some q => c q.1 q.2.1 + (if q.1 ≤ 2 then 0 else zT c nd f q.2.2.1) + (if 7 ≤ q.1 ∧ q.1 ≤ 12 then zT c nd f q.2.2.2 else 0)
theorem zT_fuel (c : Nat → Nat → Nat) {nd : List (Nat × Nat × Nat × Nat)} (h : znok nd) : ∀ (f g i : Nat), i < f → i < g → zT c nd f i = zT c nd g i
  | 0, _, _, h, _ => absurd h (Nat.not_lt_zero _)
  | _ + 1, 0, _, _, h => absurd h (Nat.not_lt_zero _)
  | f + 1, g + 1, i, h1, h2 => by
    unfold zT
    cases hq : nd[i]? with
    | none => rfl
    | some q =>
      obtain ⟨l1, l2, -⟩ := znk_lt (h i q hq)
      dsimp only
      congr 1
      · congr 1
        by_cases hk : q.1 ≤ 2
        · rw [if_pos hk, if_pos hk]
        · have := l1 hk
          rw [if_neg hk, if_neg hk]; exact zT_fuel c h f g _ (by omega) (by omega)
      · by_cases hk : 7 ≤ q.1 ∧ q.1 ≤ 12
        · have := l2 hk
          rw [if_pos hk, if_pos hk]; exact zT_fuel c h f g _ (by omega) (by omega)
        · rw [if_neg hk, if_neg hk]
/-- a node's cost with all below it -/
def zTt (c : Nat → Nat → Nat) (nd : List (Nat × Nat × Nat × Nat)) (i : Nat) : Nat := zT c nd (i + 1) i
theorem zTt_eq (c : Nat → Nat → Nat) {nd : List (Nat × Nat × Nat × Nat)} (h : znok nd) {i : Nat} {q : Nat × Nat × Nat × Nat} (hq : nd[i]? = some q) : zTt c nd i = c q.1 q.2.1 + (if q.1 ≤ 2 then 0 else zTt c nd q.2.2.1) + (if 7 ≤ q.1 ∧ q.1 ≤ 12 then zTt c nd q.2.2.2 else 0) := by
  obtain ⟨l1, l2, -⟩ := znk_lt (h i q hq)
  show zT c nd (i + 1) i = _
  rw [zT, hq]
  dsimp only
  unfold zTt
  congr 1
  · congr 1
    by_cases hk : q.1 ≤ 2
    · rw [if_pos hk, if_pos hk]
    · have := l1 hk
      rw [if_neg hk, if_neg hk]; exact zT_fuel c h _ _ _ (by omega) (by omega)
  · by_cases hk : 7 ≤ q.1 ∧ q.1 ≤ 12
    · have := l2 hk
      rw [if_pos hk, if_pos hk]; exact zT_fuel c h _ _ _ (by omega) (by omega)
    · rw [if_neg hk, if_neg hk]
/-- a new node leaves the old ones' costs -/
theorem zT_push (c : Nat → Nat → Nat) {nd : List (Nat × Nat × Nat × Nat)} (h : znok nd) (a : Nat × Nat × Nat × Nat) : ∀ (f i : Nat), i < nd.length → zT c (nd ++ [a]) f i = zT c nd f i
  | 0, _, _ => rfl
  | f + 1, i, hi => by
    unfold zT
    rw [List.getElem?_append_left hi]
    cases hq : nd[i]? with
    | none => rfl
    | some q =>
      obtain ⟨l1, l2, -⟩ := znk_lt (h i q hq)
      dsimp only
      congr 1
      · congr 1
        by_cases hk : q.1 ≤ 2
        · rw [if_pos hk, if_pos hk]
        · have := l1 hk
          rw [if_neg hk, if_neg hk]; exact zT_push c h a f _ (by omega)
      · by_cases hk : 7 ≤ q.1 ∧ q.1 ≤ 12
        · have := l2 hk
          rw [if_pos hk, if_pos hk]; exact zT_push c h a f _ (by omega)
        · rw [if_neg hk, if_neg hk]
theorem zTt_push (c : Nat → Nat → Nat) {nd : List (Nat × Nat × Nat × Nat)} (h : znok nd) (a : Nat × Nat × Nat × Nat) {i : Nat} (hi : i < nd.length) : zTt c (nd ++ [a]) i = zTt c nd i := zT_push c h a _ _ hi
theorem zTt_new (c : Nat → Nat → Nat) {nd : List (Nat × Nat × Nat × Nat)} (h : znok nd) {a : Nat × Nat × Nat × Nat} (ha : znk nd.length a) : zTt c (nd ++ [a]) nd.length = c a.1 a.2.1 + (if a.1 ≤ 2 then 0 else zTt c nd a.2.2.1) + (if 7 ≤ a.1 ∧ a.1 ≤ 12 then zTt c nd a.2.2.2 else 0) := by
  obtain ⟨l1, l2, -⟩ := znk_lt ha
  rw [zTt_eq c (znok_push h ha) (q := a) (by simp)]
  congr 1
  · congr 1
    by_cases hk : a.1 ≤ 2
    · rw [if_pos hk, if_pos hk]
    · rw [if_neg hk, if_neg hk]; exact zTt_push c h a (l1 hk)
  · by_cases hk : 7 ≤ a.1 ∧ a.1 ≤ 12
    · rw [if_pos hk, if_pos hk]; exact zTt_push c h a (l2 hk)
    · rw [if_neg hk, if_neg hk]
/-- sums over lists -/
def zsu {α : Type} (g : α → Nat) : List α → Nat
  | [] => 0
  | a :: l => g a + zsu g l
theorem zsu_app {α : Type} (g : α → Nat) : ∀ a b : List α, zsu g (a ++ b) = zsu g a + zsu g b
  | [], b => by simp [zsu]
  | x :: a, b => by simp only [List.cons_append, zsu, zsu_app g a b]; omega
theorem zsu_congr {α : Type} {g g' : α → Nat} : ∀ l : List α, (∀ a ∈ l, g a = g' a) → zsu g l = zsu g' l
  | [], _ => rfl
  | a :: l, h => by simp only [zsu]; rw [h a (by simp), zsu_congr l (fun x hx => h x (by simp [hx]))]
theorem zsu_mem {α : Type} (g : α → Nat) : ∀ (l : List α) (a : α), a ∈ l → g a ≤ zsu g l
  | [], _, h => by simp at h
  | x :: l, a, h => by
    simp only [zsu]
    rcases List.mem_cons.mp h with rfl | h
    · omega
    · have := zsu_mem g l a h; omega
/-- all that a state will cost -/
def zph2 (c : Nat → Nat → Nat) (jc : Nat → Nat) (nd : List (Nat × Nat × Nat × Nat)) (D : List Nat) (O S : List (Nat × Nat)) (j : Nat) : Nat :=
  zsu (zTt c nd) D + zsu (fun q : Nat × Nat => zTt c nd q.2 + jc q.1) S + zsu (fun q : Nat × Nat => c q.1 q.2) O + jc j
/-- what a token may add -/
def ztc (c : Nat → Nat → Nat) (jc : Nat → Nat) (pc : Nat) (k d : Nat) : Nat :=
  (if 2 ≤ k ∧ k ≤ 6 ∨ k = 22 then c 12 0 else 0) + (if k = 1 ∨ k = 2 then c k d else if 3 ≤ k ∧ k ≤ 6 ∨ k = 22 then c k 0 else if k = 24 then pc else if k = 8 then max (c 8 0) (c 13 0) else if 7 ≤ k ∧ k ≤ 11 then c k 0 else if 14 ≤ k ∧ k ≤ 21 then jc k else 0)
section CO
variable (c : Nat → Nat → Nat) (jc : Nat → Nat) (pc : Nat)
variable {t w : Bool} {σ σ' : Nat × Nat × Nat × Nat × Nat} {i k d : Nat} {nd : List (Nat × Nat × Nat × Nat)} {D : List Nat} {O S : List (Nat × Nat)} {j : Nat}
theorem zph2_nd {nd : List (Nat × Nat × Nat × Nat)} (h : znok nd) (a : Nat × Nat × Nat × Nat) (D : List Nat) (S : List (Nat × Nat)) (hD : ∀ x ∈ D, x < nd.length) (hS : ∀ q ∈ S, q.2 < nd.length) :
    zsu (zTt c (nd ++ [a])) D = zsu (zTt c nd) D ∧ zsu (fun q : Nat × Nat => zTt c (nd ++ [a]) q.2 + jc q.1) S = zsu (fun q : Nat × Nat => zTt c nd q.2 + jc q.1) S :=
  ⟨zsu_congr D fun x hx => zTt_push c h a (hD x hx), zsu_congr S fun q hq => by rw [zTt_push c h a (hS q hq)]⟩
theorem zph2_ap {q : Nat × Nat} (h : zgd nd D (q :: O) S) (hq : 3 ≤ q.1 ∧ q.1 ≤ 13) (hD : zbb q.1 + 1 ≤ D.length) : zph2 c jc (zap q nd D).1 (zap q nd D).2 O S j = zph2 c jc nd D (q :: O) S j := by
  obtain ⟨h1, h2, h3, h4⟩ := h
  unfold zap zph2
  unfold zbb at hD
  by_cases hb : 7 ≤ q.1 ∧ q.1 ≤ 12
  · rw [if_pos hb] at hD ⊢
    match D, hD, h2 with
    | r :: a :: D', _, h2 =>
      have m0 := h2 r (by simp); have m1 := h2 a (by simp)
      have hn : znk nd.length (q.1, q.2, a, r) := Or.inr (Or.inr (Or.inr (Or.inl ⟨hb.1, hb.2, m1, m0⟩)))
      obtain ⟨e1, e2⟩ := zph2_nd c jc h1 (q.1, q.2, a, r) D' S (fun x hx => h2 x (by simp [hx])) h4
      show zsu (zTt c (nd ++ [(q.1, q.2, a, r)])) (nd.length :: D') + zsu (fun u : Nat × Nat => zTt c (nd ++ [(q.1, q.2, a, r)]) u.2 + jc u.1) S + zsu _ O + jc j = _
      simp only [zsu]
      rw [zTt_new c h1 hn, e1, e2]
      dsimp only
      rw [if_neg (by omega), if_pos hb]
      omega
    | [r], h, _ => simp at h
    | [], h, _ => simp at h
  · rw [if_neg hb] at hD ⊢
    match D, hD, h2 with
    | a :: D', _, h2 =>
      have m0 := h2 a (by simp)
      have hn : znk nd.length (q.1, q.2, a, 0) := by
        rcases Nat.lt_or_ge q.1 7 with h7 | h7
        · exact Or.inr (Or.inr (Or.inl ⟨hq.1, by show q.1 ≤ 6; omega, h3 q (List.mem_cons_self ..) ⟨hq.1, by omega⟩, m0⟩))
        · exact Or.inr (Or.inr (Or.inr (Or.inr ⟨by show q.1 = 13; omega, m0⟩)))
      obtain ⟨e1, e2⟩ := zph2_nd c jc h1 (q.1, q.2, a, 0) D' S (fun x hx => h2 x (by simp [hx])) h4
      show zsu (zTt c (nd ++ [(q.1, q.2, a, 0)])) (nd.length :: D') + zsu (fun u : Nat × Nat => zTt c (nd ++ [(q.1, q.2, a, 0)]) u.2 + jc u.1) S + zsu _ O + jc j = _
      simp only [zsu]
      rw [zTt_new c h1 hn, e1, e2]
      dsimp only
      rw [if_neg (by omega), if_neg hb]
      omega
    | [], h, _ => simp at h
theorem zph2_down (m : Nat) (hm : 1 ≤ m) : ∀ (O : List (Nat × Nat)) (nd : List (Nat × Nat × Nat × Nat)) (D : List Nat), zgd nd D O S → zbn O < D.length → (∀ q ∈ O, zwk q.1) → zph2 c jc (zdown (zlev t w) m O nd D).1 (zdown (zlev t w) m O nd D).2.1 (zdown (zlev t w) m O nd D).2.2 S j = zph2 c jc nd D O S j
  | [], nd, D, h, _, _ => rfl
  | q :: O, nd, D, h, hb, hk => by
    unfold zdown
    by_cases hl : m ≤ zlev t w q.1
    · rw [if_pos hl]
      have hz := hk q (by simp)
      have hne := (zlev_1 (t := t) (w := w) hz).mp (by omega)
      have hb' : zbn O + zbb q.1 < D.length := hb
      have hq13 : 3 ≤ q.1 ∧ q.1 ≤ 13 := by unfold zwk at hz; omega
      obtain ⟨g1, g2⟩ := zap_len q nd D
      have g2 := g2 (by omega)
      rw [zph2_down m hm O _ _ (zgd_ap h hq13 (by omega)) (by omega) (fun u hu => hk u (by simp [hu])), zph2_ap c jc h hq13 (by omega)]
    · rw [if_neg hl]
theorem zph2_step (hc22 : c 22 0 = 0) (hpc : ∀ k p, 3 ≤ k → k ≤ 6 → c k (p + 1) ≤ c k p + pc) (h : zinv σ i nd D O S) (hg : zgd nd D O S) (hz : zsy σ k = some σ') (hk : k < 25) (hd1 : k = 1 → d < 1000000) (hd2 : k = 2 → d < 26) :
    zph2 c jc (ztk t w (decide (σ.1 = 3)) k d nd D O S j).1 (ztk t w (decide (σ.1 = 3)) k d nd D O S j).2.1 (ztk t w (decide (σ.1 = 3)) k d nd D O S j).2.2.1 (ztk t w (decide (σ.1 = 3)) k d nd D O S j).2.2.2.1 (ztk t w (decide (σ.1 = 3)) k d nd D O S j).2.2.2.2 ≤ zph2 c jc nd D O S j + ztc c jc pc k d := by
  obtain ⟨g1, g2, g3, g4, g5, g6, g7, g8, g9⟩ := h
  have hJ : zgd (zjux t w (decide (σ.1 = 3)) k nd D O).1 (zjux t w (decide (σ.1 = 3)) k nd D O).2.1 (zjux t w (decide (σ.1 = 3)) k nd D O).2.2 S ∧ zph2 c jc (zjux t w (decide (σ.1 = 3)) k nd D O).1 (zjux t w (decide (σ.1 = 3)) k nd D O).2.1 (zjux t w (decide (σ.1 = 3)) k nd D O).2.2 S j ≤ zph2 c jc nd D O S j + (if σ.1 = 3 ∧ (1 ≤ k ∧ k ≤ 6 ∨ k = 22) then c 12 0 else 0) := by
    unfold zjux
    by_cases h3 : σ.1 = 3 ∧ (1 ≤ k ∧ k ≤ 6 ∨ k = 22)
    · rw [if_pos ⟨decide_eq_true h3.1, h3.2⟩, if_pos h3]
      rw [if_pos h3.1] at g2
      obtain ⟨a1, a2, a3, a4⟩ := zgd_down (t := t) (w := w) 4 (by omega) O nd D hg (by omega) g5
      refine ⟨⟨a1, a2, fun q hq => ?_, a4⟩, ?_⟩
      · rcases List.mem_cons.mp hq with rfl | hq
        · intro h; exact absurd h.2 (by decide)
        · exact a3 q hq
      · have e := zph2_down c jc (j := j) (t := t) (w := w) 4 (by omega) O nd D hg (by omega) g5
        unfold zph2 at e ⊢
        simp only [zsu]; omega
    · rw [if_neg (fun h' => h3 ⟨of_decide_eq_true h'.1, h'.2⟩), if_neg h3]; exact ⟨hg, Nat.le_refl _⟩
  obtain ⟨hJg, hJc⟩ := hJ
  obtain ⟨st, dp, l, p, o⟩ := σ
  dsimp only at g2 g6 g7 hJg hJc ⊢
  unfold ztk ztc
  rcases zsy_cases hz with ⟨h1, rfl⟩ | ⟨h1, rfl⟩ | ⟨h1, rfl⟩ | ⟨h1, h2, h3, rfl⟩ | ⟨h1, h2, rfl⟩ | ⟨h1, h2, rfl⟩ | ⟨h1, h2, h3, rfl⟩ | ⟨h1, h2, h3, h4, rfl⟩ | ⟨h1, h2, h3, h4, h5, rfl⟩
  · rw [z0_a (by omega)]
    have hjx : (if st = 3 ∧ (1 ≤ k ∧ k ≤ 6 ∨ k = 22) then c 12 0 else 0) ≤ (if 2 ≤ k ∧ k ≤ 6 ∨ k = 22 then c 12 0 else 0) := by
      by_cases h : st = 3 ∧ (1 ≤ k ∧ k ≤ 6 ∨ k = 22)
      · rw [if_pos h, if_pos (by omega)]; exact Nat.le_refl _
      · rw [if_neg h]; exact Nat.zero_le _
    generalize zjux t w (decide (st = 3)) k nd D O = r at *
    obtain ⟨a1, a2, a3, a4⟩ := hJg
    have hn : znk r.1.length (k, d, 0, 0) := by
      rcases (by omega : k = 1 ∨ k = 2) with h | h
      · exact Or.inl ⟨h, hd1 h⟩
      · exact Or.inr (Or.inl ⟨h, hd2 h⟩)
    obtain ⟨e1, e2⟩ := zph2_nd c jc a1 (k, d, 0, 0) r.2.1 S a2 a4
    have e3 := zTt_new c a1 hn
    dsimp only at e3
    rw [if_pos (by omega), if_neg (by omega)] at e3
    rw [if_pos (by omega : k = 1 ∨ k = 2)]
    unfold zph2 at hJc ⊢
    simp only [zsu]
    rw [e1, e2, e3]; omega
  · rw [z0_b (by omega), if_pos (by omega : 2 ≤ k ∧ k ≤ 6 ∨ k = 22), if_neg (by omega : ¬ (k = 1 ∨ k = 2)), if_pos (by omega : 3 ≤ k ∧ k ≤ 6 ∨ k = 22)]
    have : (if st = 3 ∧ (1 ≤ k ∧ k ≤ 6 ∨ k = 22) then c 12 0 else 0) ≤ c 12 0 := by split <;> omega
    unfold zph2 at hJc ⊢
    simp only [zsu]; omega
  · rw [z0_b (by omega), if_pos (by omega : 2 ≤ k ∧ k ≤ 6 ∨ k = 22), if_neg (by omega : ¬ (k = 1 ∨ k = 2)), if_pos (by omega : 3 ≤ k ∧ k ≤ 6 ∨ k = 22)]
    have : (if st = 3 ∧ (1 ≤ k ∧ k ≤ 6 ∨ k = 22) then c 12 0 else 0) ≤ c 12 0 := by split <;> omega
    unfold zph2 at hJc ⊢
    simp only [zsu]; omega
  · rw [z0_c h1, zjux_no (by omega), if_neg (by omega : ¬ (2 ≤ k ∧ k ≤ 6 ∨ k = 22)), if_neg (by omega : ¬ (k = 1 ∨ k = 2)), if_neg (by omega : ¬ (3 ≤ k ∧ k ≤ 6 ∨ k = 22)), if_pos h1]
    obtain ⟨k', O', e, e1, e2⟩ := g7 h2
    subst e
    have := hpc k' p e1 e2
    unfold zph2
    simp only [zprime, zsu]; omega
  · rw [z0_d h1 (by simp [h2]), zjux_no (by omega), if_neg (by omega : ¬ (2 ≤ k ∧ k ≤ 6 ∨ k = 22)), if_neg (by omega : ¬ (k = 1 ∨ k = 2)), if_neg (by omega : ¬ (3 ≤ k ∧ k ≤ 6 ∨ k = 22)), if_neg (by omega : ¬ k = 24), if_pos h1]
    unfold zph2
    simp only [zsu]
    have := Nat.le_max_right (c 8 0) (c 13 0)
    omega
  · rw [z0_e h1 (by simp [h2]), zjux_no (by omega), if_neg (by omega : ¬ (2 ≤ k ∧ k ≤ 6 ∨ k = 22)), if_neg (by omega : ¬ (k = 1 ∨ k = 2)), if_neg (by omega : ¬ (3 ≤ k ∧ k ≤ 6 ∨ k = 22)), if_neg (by omega : ¬ k = 24)]
    rw [if_pos h2] at g2
    have hc : 1 ≤ zcom k := by unfold zcom; repeat' split
                               all_goals omega
    have e := zph2_down c jc (j := j) (t := t) (w := w) (zcom k) hc O nd D hg (by omega) g5
    have hle : c k 0 ≤ (if k = 8 then max (c 8 0) (c 13 0) else if 7 ≤ k ∧ k ≤ 11 then c k 0 else if 14 ≤ k ∧ k ≤ 21 then jc k else 0) := by
      by_cases h8 : k = 8
      · rw [if_pos h8, h8]; exact Nat.le_max_left _ _
      · rw [if_neg h8, if_pos h1]; exact Nat.le_refl _
    unfold zph2 at e ⊢
    simp only [zsu]; omega
  · rw [z0_f h1, zjux_no (by omega)]
    rw [if_pos h2] at g2
    have e := zph2_down c jc (j := j) (t := t) (w := w) 1 (by omega) O nd D hg (by omega) g5
    have hd : zsu (fun q : Nat × Nat => c q.1 q.2) ((zdown (zlev t w) 1 O nd D).2.2.drop 1) ≤ zsu (fun q : Nat × Nat => c q.1 q.2) (zdown (zlev t w) 1 O nd D).2.2 := by
      cases (zdown (zlev t w) 1 O nd D).2.2 with
      | nil => exact Nat.le_refl _
      | cons q O => simp only [List.drop, zsu]; omega
    unfold zph2 at e ⊢
    dsimp only; omega
  all_goals
    rw [z0_g (by omega), zjux_no (by omega), if_neg (by omega : ¬ (2 ≤ k ∧ k ≤ 6 ∨ k = 22)), if_neg (by omega : ¬ (k = 1 ∨ k = 2)), if_neg (by omega : ¬ (3 ≤ k ∧ k ≤ 6 ∨ k = 22)), if_neg (by omega : ¬ k = 24), if_neg (by omega : ¬ k = 8), if_neg (by omega : ¬ (7 ≤ k ∧ k ≤ 11)), if_pos (by omega : 14 ≤ k ∧ k ≤ 21)]
    rw [if_pos h2] at g2
    have e := zph2_down c jc (j := j) (t := t) (w := w) 1 (by omega) O nd D hg (by omega) g5
    obtain ⟨b1, b2, -⟩ := zinv_down (t := t) (w := w) 1 (by omega) g2 g3 g5
    have hc := zcons1 (D := (zdown (zlev t w) 1 O nd D).2.1) (by omega)
    unfold zph2 at e ⊢
    dsimp only
    rw [zsu_app]
    rw [hc] at e
    simp only [zsu] at e ⊢
    omega
end CO
/-! Bounds of what is built. -/
def ztsum (c : Nat → Nat → Nat) (jc : Nat → Nat) (pc : Nat) (l : List (Nat × Nat × Nat)) : Nat := zsu (fun q : Nat × Nat × Nat => ztc c jc pc q.1 q.2.1) l
/-- the costs of all sums and their signs -/
def zcost (c : Nat → Nat → Nat) (jc : Nat → Nat) (nd : List (Nat × Nat × Nat × Nat)) (S : List (Nat × Nat)) : Nat := zsu (fun q : Nat × Nat => zTt c nd q.2 + jc q.1) S
theorem zbuild_cost {t w : Bool} {l : List (Nat × Nat × Nat)} (c : Nat → Nat → Nat) (jc : Nat → Nat) (pc : Nat) (hf : zform l) (hd : ∀ q ∈ l, ztd q) (hj0 : jc 0 = 0) (hc22 : c 22 0 = 0) (hpc : ∀ k p, 3 ≤ k → k ≤ 6 → c k (p + 1) ≤ c k p + pc) :
    zcost c jc (zbuild t w l).1 (zbuild t w l).2 ≤ ztsum c jc pc l := by
  obtain ⟨⟨sf, h1, h2⟩, h3, h4⟩ := hf
  have key : ∀ (rest : List (Nat × Nat × Nat)) (i : Nat) (σ : Nat × Nat × Nat × Nat × Nat) (b : zBt), (∀ q ∈ rest, zkok q ∧ ztd q) → zinv σ i b.1 b.2.1 b.2.2.1 b.2.2.2.1 → zgd b.1 b.2.1 b.2.2.1 b.2.2.2.1 → zgo σ rest = some sf →
      ∃ i', zinv sf i' (zbgo t w σ b rest).1 (zbgo t w σ b rest).2.1 (zbgo t w σ b rest).2.2.1 (zbgo t w σ b rest).2.2.2.1 ∧ zgd (zbgo t w σ b rest).1 (zbgo t w σ b rest).2.1 (zbgo t w σ b rest).2.2.1 (zbgo t w σ b rest).2.2.2.1 ∧
        zph2 c jc (zbgo t w σ b rest).1 (zbgo t w σ b rest).2.1 (zbgo t w σ b rest).2.2.1 (zbgo t w σ b rest).2.2.2.1 (zbgo t w σ b rest).2.2.2.2 ≤ zph2 c jc b.1 b.2.1 b.2.2.1 b.2.2.2.1 b.2.2.2.2 + ztsum c jc pc rest := by
    intro rest
    induction rest with
    | nil => intro i σ b _ a1 a3 a5; cases a5; exact ⟨i, a1, a3, Nat.le_refl _⟩
    | cons q rest ih =>
      intro i σ b hq a1 a3 a5
      obtain ⟨s', hz, hgo'⟩ := zgo_step a5
      have hk := hq q (by simp)
      have e : zbgo t w σ b (q :: rest) = zbgo t w s' (ztk t w (decide (σ.1 = 3)) q.1 q.2.1 b.1 b.2.1 b.2.2.1 b.2.2.2.1 b.2.2.2.2) rest := by
        rw [zbgo, hz]
      rw [e]
      have hst := zph2_step c jc pc (t := t) (w := w) (j := b.2.2.2.2) hc22 hpc a1 a3 hz hk.1.1 hk.2.1 hk.2.2
      obtain ⟨i', b1, b2, b3⟩ := ih (i + 1) s' _ (fun x hx => hq x (by simp [hx])) (zinv_step (t := t) (w := w) (d := q.2.1) (j := b.2.2.2.2) a1 hz hk.1.1) (zgd_step (t := t) (w := w) (j := b.2.2.2.2) a1 a3 hz hk.1.1 hk.2.1 hk.2.2) hgo'
      refine ⟨i', b1, b2, ?_⟩
      have e2 : ztsum c jc pc (q :: rest) = ztc c jc pc q.1 q.2.1 + ztsum c jc pc rest := rfl
      omega
  obtain ⟨i', b1, b2, b3⟩ := key l 0 zs0 ([], [], [], [], 0) (fun q hq => ⟨h3 q hq, hd q hq⟩) zinv_0 ⟨fun i q h => (by simp at h), by simp, by simp, by simp⟩ h1
  obtain ⟨g1, g2, g3, g4, g5, g6, g7, g8, g9⟩ := b1
  rw [if_pos h2.1] at g2
  have e := zph2_down c jc (j := (zbgo t w zs0 ([], [], [], [], 0) l).2.2.2.2) (t := t) (w := w) 1 (by omega) _ _ _ b2 (by omega) g5
  obtain ⟨d1, d2, -⟩ := zinv_down (t := t) (w := w) 1 (by omega) g2 g3 g5
  have hc := zcons1 (D := (zdown (zlev t w) 1 (zbgo t w zs0 ([], [], [], [], 0) l).2.2.1 (zbgo t w zs0 ([], [], [], [], 0) l).1 (zbgo t w zs0 ([], [], [], [], 0) l).2.1).2.1) (by omega)
  unfold zcost zbuild
  dsimp only
  rw [zsu_app]
  unfold zph2 at e b3
  rw [hc] at e
  simp only [zsu] at e b3 ⊢
  omega
/-- costs of a text's tokens, by its length -/
theorem ztoks_sum (g : Nat × Nat × Nat → Nat) (M : Nat) (hM : ∀ (c : Nat) (t : List Nat) (p : Nat), (∀ x ∈ c :: t, x < 127) → c ≠ 32 → g ((ztok (c :: t)).1, (ztok (c :: t)).2.1, p) ≤ M * (ztok (c :: t)).2.2) : ∀ (f p : Nat) (s : List Nat), (∀ c ∈ s, c < 127) → zsu g (ztoks f p s) ≤ M * s.length
  | 0, _, _, _ => Nat.zero_le _
  | f + 1, p, [], _ => Nat.zero_le _
  | f + 1, p, c :: t, h => by
    unfold ztoks
    split
    · have := ztoks_sum g M hM f (p + 1) t (fun x hx => h x (by simp [hx]))
      rw [List.length_cons, Nat.mul_add]; omega
    · rename_i h32
      have hw := ztok_w (t := t) (h c (by simp))
      have h1 := hM c t p h h32
      have h2 := ztoks_sum g M hM f (p + (ztok (c :: t)).2.2) ((c :: t).drop (ztok (c :: t)).2.2) (fun x hx => h x (List.mem_of_mem_drop hx))
      rw [List.length_drop] at h2
      simp only [zsu]
      have e : M * (c :: t).length = M * (ztok (c :: t)).2.2 + M * ((c :: t).length - (ztok (c :: t)).2.2) := by rw [← Nat.mul_add]; congr 1; omega
      omega
/-- how many digits a number is printed with -/
def zndig (d : Nat) : Nat := if 100000 ≤ d then 6 else if 10000 ≤ d then 5 else if 1000 ≤ d then 4 else if 100 ≤ d then 3 else if 10 ≤ d then 2 else 1
theorem zval_pow : ∀ (s : List Nat) (n a : Nat), a < 10 ^ n → n + zrun s ≤ 6 → zval n a s < 10 ^ (n + zrun s)
  | [], n, a, h, _ => by simpa [zval, zrun] using h
  | c :: t, n, a, h, h6 => by
    by_cases hd : zdg c = true
    · have hr : zrun (c :: t) = zrun t + 1 := by unfold zrun; rw [if_pos hd]; cases t <;> rfl
      rw [hr] at h6 ⊢
      rw [zval, if_pos hd, if_pos (by omega), show n + (zrun t + 1) = n + 1 + zrun t by omega]
      refine zval_pow t (n + 1) _ ?_ (by omega)
      have := zdg_iff.mp hd
      rw [Nat.pow_succ]; omega
    · have hr : zrun (c :: t) = 0 := by unfold zrun; rw [if_neg hd]
      rw [zval, if_neg hd, hr]; exact h
theorem zndig_le {d w : Nat} (hw : 1 ≤ w) (hw6 : w ≤ 6) (h : d < 10 ^ w) : zndig d ≤ w := by
  unfold zndig
  match w, hw, hw6, h with
  | 1, _, _, h => repeat' split
                  all_goals omega
  | 2, _, _, h => repeat' split
                  all_goals omega
  | 3, _, _, h => repeat' split
                  all_goals omega
  | 4, _, _, h => repeat' split
                  all_goals omega
  | 5, _, _, h => repeat' split
                  all_goals omega
  | 6, _, _, h => repeat' split
                  all_goals omega
/-- costs of nodes: one each; characters printed; characters spoken -/
def zc1 (k _d : Nat) : Nat := if k = 22 then 0 else 1
def zcp (k d : Nat) : Nat := if k = 1 then zndig d else if k = 2 then 1 else if 3 ≤ k ∧ k ≤ 6 then 5 + d else if k = 22 then 0 else 3
def zwl (k : Nat) : Nat := if k = 7 ∨ k = 10 then 4 else if k = 8 ∨ k = 9 then 5 else 2
def zcs (k d : Nat) : Nat := if k = 1 then zndig d else if k = 2 then 1 else if 3 ≤ k ∧ k ≤ 6 then 7 + 6 * d else if k = 22 then 0 else if k = 13 then 17 else 13 + zwl k
def zjp (k : Nat) : Nat := if k = 0 then 0 else if k = 14 ∨ k = 15 ∨ k = 16 ∨ k = 20 then 1 else 2
def zjs (k : Nat) : Nat := if k = 0 then 0 else 8
theorem ztok_cost (c : Nat → Nat → Nat) (jc : Nat → Nat) (pc M : Nat) (h1 : ∀ d w, 1 ≤ w → w ≤ 6 → d < 10 ^ w → c 1 d ≤ M * w) (hk : ∀ k d, k < 25 → k ≠ 1 → ztc c jc pc k d ≤ M * (if 3 ≤ k ∧ k ≤ 6 then 3 else if k = 17 ∨ k = 18 ∨ k = 19 ∨ k = 21 then 2 else 1))
    (ch : Nat) (t : List Nat) (p : Nat) (h : ∀ x ∈ ch :: t, x < 127) (h32 : ch ≠ 32) : ztc c jc pc (ztok (ch :: t)).1 (ztok (ch :: t)).2.1 ≤ M * (ztok (ch :: t)).2.2 := by
  have hc := h ch (by simp)
  have ht : t.getD 0 0 < 127 := by
    cases t with
    | nil => exact (by decide : 0 < 127)
    | cons d u => exact h d (by simp)
  by_cases h0 : zdg ch = true
  · rw [ztok_d h0]
    dsimp only
    have hr1 : 1 ≤ zrun (ch :: t) := by unfold zrun; rw [if_pos h0]; omega
    by_cases h6 : 6 < zrun (ch :: t)
    · rw [if_pos h6]
      have := hk 0 (zval 0 0 (ch :: t)) (by omega) (by omega)
      rw [if_neg (by omega), if_neg (by omega)] at this
      exact Nat.le_trans this (Nat.mul_le_mul_left M hr1)
    · rw [if_neg h6]
      have hv := zval_pow (ch :: t) 0 0 (by decide) (by omega)
      rw [Nat.zero_add] at hv
      have := h1 _ _ hr1 (by omega) hv
      unfold ztc
      rw [if_neg (by omega), if_pos (Or.inl rfl), Nat.zero_add]; exact this
  · by_cases h1' : 97 ≤ ch ∧ ch ≤ 122
    · by_cases h2 : zfun (ch :: t) = 0
      · rw [ztok_v h0 h1' h2]
        have := hk 2 (ch - 97) (by omega) (by omega)
        rw [if_neg (by omega), if_neg (by omega)] at this
        exact this
      · rw [ztok_f h0 h1' h2]
        have hz := zfun_lt (ch :: t)
        have hz2 := hz.2 h2
        have := hk (zfun (ch :: t)) 0 (by omega) (by omega)
        rw [if_pos (by omega)] at this
        exact this
    · by_cases h2 : zpair ch (t.getD 0 0) = 0
      · rw [ztok_s h0 h1' h2]
        have hs : ∀ a, a < 127 → zsign a ≠ 1 ∧ ¬ (3 ≤ zsign a ∧ zsign a ≤ 6) ∧ ¬ (zsign a = 17 ∨ zsign a = 18 ∨ zsign a = 19 ∨ zsign a = 21) := by decide +kernel
        obtain ⟨s1, s2, s3⟩ := hs ch hc
        have := hk (zsign ch) 0 (zsign_ok ch hc).2 s1
        rw [if_neg s2, if_neg s3] at this
        exact this
      · rw [ztok_p h0 h1' h2]
        have hs : ∀ a, a < 127 → ∀ b, b < 127 → zpair a b = 0 ∨ zpair a b = 17 ∨ zpair a b = 18 ∨ zpair a b = 19 ∨ zpair a b = 21 := by decide +kernel
        have s1 := (hs ch hc _ ht).resolve_left h2
        have := hk (zpair ch (t.getD 0 0)) 0 (by omega) (by omega)
        rw [if_neg (by omega), if_pos s1] at this
        exact this
theorem zcost_1 {t w : Bool} {tx : List Nat} (hx : ztx tx) (hf : zform (zTK tx)) : zcost zc1 (fun _ => 0) (zbuild t w (zTK tx)).1 (zbuild t w (zTK tx)).2 ≤ 160 := by
  have hd : ∀ q ∈ zTK tx, ztd q := ztoks_td _ _ _ (fun c hc => (hx.2 c hc).2)
  have h1 := zbuild_cost (t := t) (w := w) zc1 (fun _ => 0) 0 hf hd rfl rfl (fun k p _ _ => by unfold zc1; split <;> omega)
  have h2 := ztoks_sum (fun q => ztc zc1 (fun _ => 0) 0 q.1 q.2.1) 2 (fun c t p h h32 => ztok_cost zc1 (fun _ => 0) 0 2 (fun d w h1 h2 h3 => by show zc1 1 d ≤ _; unfold zc1; rw [if_neg (by omega)]; omega) (fun k d hk h1 => by
    unfold ztc zc1
    dsimp only
    repeat' split
    all_goals omega) c t p h h32) (tx.length + 1) 0 tx (fun c hc => (hx.2 c hc).2)
  have := hx.1
  unfold ztsum at h1
  have h2' : zsu (fun q : Nat × Nat × Nat => ztc zc1 (fun _ => 0) 0 q.1 q.2.1) (zTK tx) ≤ 2 * tx.length := h2
  omega
theorem zcost_p {t w : Bool} {tx : List Nat} (hx : ztx tx) (hf : zform (zTK tx)) : zcost zcp zjp (zbuild t w (zTK tx)).1 (zbuild t w (zTK tx)).2 ≤ 320 := by
  have hd : ∀ q ∈ zTK tx, ztd q := ztoks_td _ _ _ (fun c hc => (hx.2 c hc).2)
  have h1 := zbuild_cost (t := t) (w := w) zcp zjp 1 hf hd rfl rfl (fun k p h3 h6 => by unfold zcp; rw [if_neg (by omega), if_neg (by omega), if_pos ⟨h3, h6⟩, if_neg (by omega), if_neg (by omega), if_pos ⟨h3, h6⟩]; omega)
  have h2 := ztoks_sum (fun q => ztc zcp zjp 1 q.1 q.2.1) 4 (fun c t p h h32 => ztok_cost zcp zjp 1 4 (fun d w h1 h2 h3 => by show zcp 1 d ≤ _; unfold zcp; rw [if_pos rfl]; have := zndig_le h1 h2 h3; omega) (fun k d hk h1 => by
    have e12 : zcp 12 0 = 3 := rfl
    have e8 : zcp 8 0 = 3 := rfl
    have e13 : zcp 13 0 = 3 := rfl
    unfold ztc
    rw [e12, e8, e13]
    unfold zcp zjp
    repeat' split
    all_goals omega) c t p h h32) (tx.length + 1) 0 tx (fun c hc => (hx.2 c hc).2)
  have := hx.1
  unfold ztsum at h1
  have h2' : zsu (fun q : Nat × Nat × Nat => ztc zcp zjp 1 q.1 q.2.1) (zTK tx) ≤ 4 * tx.length := h2
  omega
theorem zcost_s {t w : Bool} {tx : List Nat} (hx : ztx tx) (hf : zform (zTK tx)) : zcost zcs zjs (zbuild t w (zTK tx)).1 (zbuild t w (zTK tx)).2 ≤ 1440 := by
  have hd : ∀ q ∈ zTK tx, ztd q := ztoks_td _ _ _ (fun c hc => (hx.2 c hc).2)
  have h1 := zbuild_cost (t := t) (w := w) zcs zjs 6 hf hd rfl rfl (fun k p h3 h6 => by unfold zcs; rw [if_neg (by omega), if_neg (by omega), if_pos ⟨h3, h6⟩, if_neg (by omega), if_neg (by omega), if_pos ⟨h3, h6⟩]; omega)
  have h2 := ztoks_sum (fun q => ztc zcs zjs 6 q.1 q.2.1) 18 (fun c t p h h32 => ztok_cost zcs zjs 6 18 (fun d w h1 h2 h3 => by show zcs 1 d ≤ _; unfold zcs; rw [if_pos rfl]; have := zndig_le h1 h2 h3; omega) (fun k d hk h1 => by
    have e12 : zcs 12 0 = 15 := rfl
    have e8 : zcs 8 0 = 18 := rfl
    have e13 : zcs 13 0 = 17 := rfl
    unfold ztc
    rw [e12, e8, e13]
    unfold zcs zjs zwl
    repeat' split
    all_goals omega) c t p h h32) (tx.length + 1) 0 tx (fun c hc => (hx.2 c hc).2)
  have := hx.1
  unfold ztsum at h1
  have h2' : zsu (fun q : Nat × Nat × Nat => ztc zcs zjs 6 q.1 q.2.1) (zTK tx) ≤ 18 * tx.length := h2
  omega
/-! Printed text. -/
def zdigs (d : Nat) : List Nat := if 100000 ≤ d then [48 + d / 100000 % 10, 48 + d / 10000 % 10, 48 + d / 1000 % 10, 48 + d / 100 % 10, 48 + d / 10 % 10, 48 + d % 10] else if 10000 ≤ d then [48 + d / 10000 % 10, 48 + d / 1000 % 10, 48 + d / 100 % 10, 48 + d / 10 % 10, 48 + d % 10] else if 1000 ≤ d then [48 + d / 1000 % 10, 48 + d / 100 % 10, 48 + d / 10 % 10, 48 + d % 10] else if 100 ≤ d then [48 + d / 100 % 10, 48 + d / 10 % 10, 48 + d % 10] else if 10 ≤ d then [48 + d / 10 % 10, 48 + d % 10] else [48 + d % 10]
theorem zdigs_len (d : Nat) : (zdigs d).length = zndig d := by
  unfold zdigs zndig
  repeat' split
  all_goals rfl
/-- a literal's characters -/
def zword (i : Nat) : List Nat := (zByt.getD i []).map Int32.toNatClampNeg
theorem zword_ok : ∀ i, i < 38 → (zword i).length = zlen i ∧ (∀ j, j < zlen i → zch i j = nI ((zword i).getD j 0) ∧ (zword i).getD j 0 < 128) ∧ zlen i < 10 := by decide +kernel
def zsym (k : Nat) : List Nat := zword (fn_Parser_symbolOf (nI k))
/-- printed nodes -/
def zpr (nd : List (Nat × Nat × Nat × Nat)) : Nat → Nat → List Nat
  | 0, _ => []
  | f + 1, i => match nd[i]? with
    | none => []
    | some q => if q.1 = 1 then zdigs q.2.1 else if q.1 = 2 then [97 + q.2.1] else if q.1 ≤ 6 then zsym q.1 ++ List.replicate q.2.1 39 ++ [40] ++ (zpr nd f q.2.2.1 ++ [41])
      else if q.1 = 13 then [40, 45] ++ (zpr nd f q.2.2.1 ++ [41]) else [40] ++ (zpr nd f q.2.2.1 ++ (zsym q.1 ++ (zpr nd f q.2.2.2 ++ [41])))
theorem zpr_fuel {nd : List (Nat × Nat × Nat × Nat)} (h : znok nd) : ∀ (f g i : Nat), i < f → i < g → zpr nd f i = zpr nd g i
  | 0, _, _, h, _ => absurd h (Nat.not_lt_zero _)
  | _ + 1, 0, _, _, h => absurd h (Nat.not_lt_zero _)
  | f + 1, g + 1, i, h1, h2 => by
    unfold zpr
    cases hq : nd[i]? with
    | none => rfl
    | some q =>
      obtain ⟨l1, l2, l3, l4⟩ := znk_lt (h i q hq)
      dsimp only
      by_cases e1 : q.1 = 1
      · rw [if_pos e1, if_pos e1]
      rw [if_neg e1, if_neg e1]
      by_cases e2 : q.1 = 2
      · rw [if_pos e2, if_pos e2]
      rw [if_neg e2, if_neg e2]
      have hl := l1 (by omega)
      rw [zpr_fuel h f g q.2.2.1 (by omega) (by omega)]
      by_cases e6 : q.1 ≤ 6
      · rw [if_pos e6, if_pos e6]
      rw [if_neg e6, if_neg e6]
      by_cases e13 : q.1 = 13
      · rw [if_pos e13, if_pos e13]
      rw [if_neg e13, if_neg e13]
      have hr := l2 (by omega)
      rw [zpr_fuel h f g q.2.2.2 (by omega) (by omega)]
/-- a node, printed -/
def zprt (nd : List (Nat × Nat × Nat × Nat)) (i : Nat) : List Nat := zpr nd (i + 1) i
theorem zprt_eq {nd : List (Nat × Nat × Nat × Nat)} (h : znok nd) {i : Nat} {q : Nat × Nat × Nat × Nat} (hq : nd[i]? = some q) : zprt nd i = if q.1 = 1 then zdigs q.2.1 else if q.1 = 2 then [97 + q.2.1] else if q.1 ≤ 6 then zsym q.1 ++ List.replicate q.2.1 39 ++ [40] ++ (zprt nd q.2.2.1 ++ [41])
      else if q.1 = 13 then [40, 45] ++ (zprt nd q.2.2.1 ++ [41]) else [40] ++ (zprt nd q.2.2.1 ++ (zsym q.1 ++ (zprt nd q.2.2.2 ++ [41]))) := by
  obtain ⟨l1, l2, l3, l4⟩ := znk_lt (h i q hq)
  show zpr nd (i + 1) i = _
  rw [zpr, hq]
  dsimp only
  unfold zprt
  by_cases e1 : q.1 = 1
  · rw [if_pos e1, if_pos e1]
  rw [if_neg e1, if_neg e1]
  by_cases e2 : q.1 = 2
  · rw [if_pos e2, if_pos e2]
  rw [if_neg e2, if_neg e2]
  have hl := l1 (by omega)
  rw [zpr_fuel h i (q.2.2.1 + 1) q.2.2.1 (by omega) (by omega)]
  by_cases e6 : q.1 ≤ 6
  · rw [if_pos e6, if_pos e6]
  rw [if_neg e6, if_neg e6]
  by_cases e13 : q.1 = 13
  · rw [if_pos e13, if_pos e13]
  rw [if_neg e13, if_neg e13]
  have hr := l2 (by omega)
  rw [zpr_fuel h i (q.2.2.2 + 1) q.2.2.2 (by omega) (by omega)]
theorem zsym_len : ∀ k, k < 25 → ((3 ≤ k ∧ k ≤ 6) → (zsym k).length = 3) ∧ ((7 ≤ k ∧ k ≤ 12) → (zsym k).length = 1) ∧ ((14 ≤ k ∧ k ≤ 21) → (zsym k).length = zjp k) := by decide +kernel
theorem zprt_len {nd : List (Nat × Nat × Nat × Nat)} (h : znok nd) : ∀ (n i : Nat), i < n → i < nd.length → (zprt nd i).length = zTt zcp nd i
  | 0, _, h, _ => absurd h (Nat.not_lt_zero _)
  | n + 1, i, hn, hi => by
    have hq := List.getElem?_eq_getElem hi
    obtain ⟨l1, l2, l3, l4⟩ := znk_lt (h i _ hq)
    rw [zprt_eq h hq, zTt_eq zcp h hq]
    generalize nd[i] = q at *
    obtain ⟨s1, s2, -⟩ := zsym_len q.1 (by omega)
    rw [show zcp q.1 q.2.1 = (if q.1 = 1 then zndig q.2.1 else if q.1 = 2 then 1 else if 3 ≤ q.1 ∧ q.1 ≤ 6 then 5 + q.2.1 else if q.1 = 22 then 0 else 3) from rfl]
    by_cases e1 : q.1 = 1
    · simp only [if_pos e1]; rw [zdigs_len, if_pos (by omega), if_neg (by omega)]; rfl
    simp only [if_neg e1]
    by_cases e2 : q.1 = 2
    · simp only [if_pos e2]; rw [if_pos (by omega), if_neg (by omega)]; rfl
    simp only [if_neg e2]
    have hl := l1 (by omega)
    have ih1 := zprt_len h n q.2.2.1 (by omega) (by omega)
    rw [if_neg (by omega : ¬ q.1 ≤ 2)]
    by_cases e6 : q.1 ≤ 6
    · have := s1 (by omega)
      rw [if_pos e6, if_pos (by omega : 3 ≤ q.1 ∧ q.1 ≤ 6), if_neg (by omega : ¬ (7 ≤ q.1 ∧ q.1 ≤ 12))]
      simp only [List.length_append, List.length_replicate, List.length_cons, List.length_nil]; omega
    rw [if_neg e6, if_neg (by omega : ¬ (3 ≤ q.1 ∧ q.1 ≤ 6)), if_neg (by omega : ¬ q.1 = 22)]
    by_cases e13 : q.1 = 13
    · rw [if_pos e13, if_neg (by omega : ¬ (7 ≤ q.1 ∧ q.1 ≤ 12))]
      simp only [List.length_append, List.length_cons, List.length_nil]; omega
    have hr := l2 (by omega)
    have ih2 := zprt_len h n q.2.2.2 (by omega) (by omega)
    have := s2 (by omega)
    rw [if_neg e13, if_pos (by omega : 7 ≤ q.1 ∧ q.1 ≤ 12)]
    simp only [List.length_append, List.length_cons, List.length_nil]; omega
/-- all sums, printed -/
def zprall (nd : List (Nat × Nat × Nat × Nat)) : List (Nat × Nat) → List Nat
  | [] => []
  | q :: S => (if q.1 = 0 then [] else zsym q.1) ++ (zprt nd q.2 ++ zprall nd S)
/-! the class's row takes words -/
section PW
variable {N : Nat}
theorem sp_puts (hN : N < 2 ^ 31) : ∀ (x : List Nat) {c : Int32} {f : Nat → Int32} {l : List Nat}, zstr N c f l → l.length + x.length ≤ N → (∀ a ∈ x, a < 128) → True := fun _ _ _ _ _ _ _ => trivial
theorem sp_wordl (hN : N < 2 ^ 31) (i : Nat) (hi : i < 38) : ∀ (n j : Nat) (c : Int32) (f : Nat → Int32) (l : List Nat), j ≤ zlen i → zlen i - j < n → zstr N c f l → l.length + (zlen i - j) ≤ N → zwp (fn_CharRow_putWord_L2 N n c f i (nI j)) (fun r => zstr N r.1 r.2 (l ++ (zword i).drop j))
  | 0, _, _, _, _, _, h, _, _ => absurd h (Nat.not_lt_zero _)
  | n + 1, j, c, f, l, hj, hn, hs, hl => by
    obtain ⟨w1, w2, w3⟩ := zword_ok i hi
    unfold fn_CharRow_putWord_L2
    refine zwp_f (by show ¬ 38 ≤ i; omega) ?_
    by_cases he : j = zlen i
    · refine zwp_t (nI_le (by omega) (by omega)) (zwp_some ?_)
      rw [List.drop_eq_nil_of_le (by omega), List.append_nil]; exact hs
    · have hlt : j < zlen i := by omega
      obtain ⟨w4, w5⟩ := w2 j hlt
      refine zwp_f (nI_ge hlt (by omega)) (zwp_f ?_ ?_)
      · rintro (h | h)
        · exact absurd (show 38 ≤ i from h) (by omega)
        · exact nI_in hlt (by omega) h
      · rw [nI_clamp (by omega), w4]
        refine zwp_seq (sp_put hN hs (by omega) w5) (fun r hr => ?_)
        rw [nI_add1]
        refine zwp_mono (sp_wordl hN i hi n (j + 1) _ _ _ hlt (by omega) hr (by rw [List.length_append]; simp only [List.length_cons, List.length_nil]; omega)) (fun u hu => ?_)
        have e : (zword i).drop j = (zword i).getD j 0 :: (zword i).drop (j + 1) := by
          rw [List.drop_eq_getElem_cons (by omega), List.getD, List.getElem?_eq_getElem (by omega)]; rfl
        rw [e]
        rw [List.append_assoc] at hu
        exact hu
theorem sp_word (hN : N < 2 ^ 31) (i : Nat) (hi : i < 38) {c : Int32} {f : Nat → Int32} {l : List Nat} (hs : zstr N c f l) (hl : l.length + (zword i).length ≤ N) : zwp (fn_CharRow_putWord N c f i) (fun r => zstr N r.1 r.2 (l ++ zword i)) := by
  obtain ⟨w1, w2, w3⟩ := zword_ok i hi
  unfold fn_CharRow_putWord
  have := sp_wordl hN i hi zFU 0 c f l (Nat.zero_le _) (Nat.lt_of_le_of_lt (by omega : zlen i - 0 ≤ 10) (by decide)) hs (by omega)
  rw [List.drop_zero] at this
  exact this
theorem zsym_lt : ∀ k, k < 25 → fn_Parser_symbolOf (nI k) < 38 := by decide +kernel
end PW
theorem zbm32 (z : Int) (h1 : 0 ≤ z) (h2 : z < 2147483648) : z.bmod 4294967296 = z := by
  simp only [Int.bmod]
  split <;> omega
theorem nI_divz {a b : Nat} (ha : a < 2 ^ 31) (hb : 0 < b) (hb2 : b < 2 ^ 31) : nI a / nI b = nI (a / b) := by
  have hd : a / b ≤ a := Nat.div_le_self _ _
  rw [← Int32.toInt_inj, Int32.toInt_div, nI_toInt ha, nI_toInt hb2, nI_toInt (by omega)]
  rw [show (Int.tdiv (a : Int) (b : Int)) = ((a / b : Nat) : Int) from rfl]
  generalize a / b = q at *
  exact zbm32 _ (by omega) (by omega)
/-- the digits of d from the unit 10 ^ m on -/
def zdgf : Nat → Nat → List Nat
  | 0, d => [48 + d % 10]
  | m + 1, d => (if 10 ^ (m + 1) ≤ d then [48 + d / 10 ^ (m + 1) % 10] else []) ++ zdgf m d
theorem zdgf_5 (d : Nat) : zdgf 5 d = zdigs d := by
  unfold zdgf zdgf zdgf zdgf zdgf zdgf zdigs
  simp only [Nat.reducePow, Nat.reduceAdd]
  by_cases h5 : 100000 ≤ d
  · have h4 : 10000 ≤ d := by omega
    have h3 : 1000 ≤ d := by omega
    have h2 : 100 ≤ d := by omega
    have h1 : 10 ≤ d := by omega
    simp only [h5, h4, h3, h2, h1, if_true]; rfl
  by_cases h4 : 10000 ≤ d
  · have h3 : 1000 ≤ d := by omega
    have h2 : 100 ≤ d := by omega
    have h1 : 10 ≤ d := by omega
    simp only [h5, h4, h3, h2, h1, if_true, if_false]; rfl
  by_cases h3 : 1000 ≤ d
  · have h2 : 100 ≤ d := by omega
    have h1 : 10 ≤ d := by omega
    simp only [h5, h4, h3, h2, h1, if_true, if_false]; rfl
  by_cases h2 : 100 ≤ d
  · have h1 : 10 ≤ d := by omega
    simp only [h5, h4, h3, h2, h1, if_true, if_false]; rfl
  by_cases h1 : 10 ≤ d
  · simp only [h5, h4, h3, h2, h1, if_true, if_false]; rfl
  · simp only [h5, h4, h3, h2, h1, if_false]; rfl
theorem zdgf_len : ∀ m d, (zdgf m d).length ≤ m + 1
  | 0, _ => Nat.le_refl _
  | m + 1, d => by
    unfold zdgf
    have := zdgf_len m d
    rw [List.length_append]
    split
    · simp only [List.length_cons, List.length_nil]; omega
    · simp only [List.length_nil]; omega
section PL
variable {N : Nat}
theorem zdigit {d u : Nat} (hd : d < 1000000) (hu : 0 < u) (hu2 : u ≤ 100000) : 48 + (nI d / nI u - nI d / nI u / 10 * 10) = nI (48 + d / u % 10) ∧ 48 + d / u % 10 < 128 := by
  have h1 : d / u ≤ d := Nat.div_le_self _ _
  have h2 : d / u / 10 ≤ d / u := Nat.div_le_self _ _
  refine ⟨?_, by omega⟩
  rw [nI_divz (by omega) hu (by omega), show (10 : Int32) = nI 10 from rfl, nI_divz (by omega) (by omega) (by omega), nI_mulz, nI_sub (by omega), show (48 : Int32) = nI 48 from rfl, nI_add]
  congr 1; omega
theorem sp_leafl (hN : N < 2 ^ 31) {d : Nat} (hd : d < 1000000) : ∀ (m n : Nat) (c : Int32) (f : Nat → Int32) (l : List Nat), m ≤ 5 → m + 1 < n → zstr N c f l → l.length + (zdgf m d).length ≤ N →
    zwp (fn_Writer_writeLeaf_L17 N n c f (nI d) (nI (10 ^ m))) (fun r => zstr N r.1 r.2 (l ++ zdgf m d))
  | _, 0, _, _, _, _, h, _, _ => absurd h (Nat.not_lt_zero _)
  | m, n + 1, c, f, l, hm, hn, hs, hl => by
    have hp : 10 ^ m ≤ 100000 := Nat.le_trans (Nat.pow_le_pow_right (by omega) hm) (by decide)
    have hp0 : 0 < 10 ^ m := Nat.pow_pos (by omega)
    obtain ⟨z1, z2⟩ := zdigit hd hp0 hp
    have hne : ¬ nI (10 ^ m) = 0 := nI_ne0 hp0 (by omega)
    have h32 : ∀ (P : Int32 × (Nat → Int32) → Prop) (K : Int32 → (Nat → Int32) → Int32 → Int32 → Option (Int32 × (Nat → Int32))), l.length < N → (∀ c' f', zstr N c' f' (l ++ [48 + d / 10 ^ m % 10]) → zwp (K c' f' (nI d) (nI (10 ^ m) / 10)) P) → zwp (fn_Writer_writeLeaf_b32 N K c f (nI d) (nI (10 ^ m))) P := by
      intro P K hlt hK
      unfold fn_Writer_writeLeaf_b32 fn_Writer_writeLeaf_b45
      refine zwp_f hne ?_
      rw [z1]
      exact zwp_seq (sp_put hN hs hlt z2) (fun r hr => hK _ _ hr)
    unfold fn_Writer_writeLeaf_L17
    refine zwp_f (show ¬ nI (10 ^ m) < 1 from nI_nlt (a := 10 ^ m) (b := 1) (by omega) (by omega)) ?_
    cases m with
    | zero =>
      have hend : ∀ c' f', zstr N c' f' (l ++ [48 + d / 10 ^ 0 % 10]) → zwp (fn_Writer_writeLeaf_L17 N n c' f' (nI d) (nI (10 ^ 0) / 10)) (fun r => zstr N r.1 r.2 (l ++ zdgf 0 d)) := by
        intro c' f' h
        cases n with
        | zero => omega
        | succ n =>
          unfold fn_Writer_writeLeaf_L17
          refine zwp_t (by decide) (zwp_some ?_)
          rw [Nat.pow_zero, Nat.div_one] at h; exact h
      have hlt : l.length < N := by simp only [zdgf, List.length_cons, List.length_nil] at hl; omega
      exact zwp_ite (fun _ => h32 _ _ hlt hend) (fun _ => zwp_t rfl (h32 _ _ hlt hend))
    | succ m =>
      have e10 : nI (10 ^ (m + 1)) / 10 = nI (10 ^ m) := by
        rw [show (10 : Int32) = nI 10 from rfl, nI_divz (by omega) (by omega) (by omega), Nat.pow_succ, Nat.mul_div_cancel _ (by omega)]
      unfold zdgf at hl
      rw [List.length_append] at hl
      by_cases hle : 10 ^ (m + 1) ≤ d
      · rw [if_pos hle] at hl
        simp only [List.length_cons, List.length_nil] at hl
        refine zwp_t (nI_le hle (by omega)) (h32 _ _ (by omega) (fun c' f' h => ?_))
        rw [e10]
        refine zwp_mono (sp_leafl hN hd m n c' f' _ (by omega) (by omega) h (by rw [List.length_append]; simp only [List.length_cons, List.length_nil]; omega)) (fun r hr => ?_)
        rw [zdgf, if_pos hle, ← List.append_assoc]; exact hr
      · rw [if_neg hle] at hl
        simp only [List.length_nil] at hl
        have h1 : ¬ nI (10 ^ (m + 1)) = 1 := fun h => by
          have := (nI_inj (b := 1) (by omega) (by omega)).mp h
          have h2 : 10 ^ 1 ≤ 10 ^ (m + 1) := Nat.pow_le_pow_right (by omega) (by omega)
          omega
        refine zwp_f (nI_ge (by omega) (by omega)) (zwp_f h1 ?_)
        unfold fn_Writer_writeLeaf_b45
        rw [e10]
        refine zwp_mono (sp_leafl hN hd m n c f l (by omega) (by omega) hs (by omega)) (fun r hr => ?_)
        rw [zdgf, if_neg hle, List.nil_append]; exact hr
theorem sp_leaf (hN : N < 2 ^ 31) {k d : Nat} {c : Int32} {f : Nat → Int32} {l : List Nat} (hs : zstr N c f l) (hk : k = 1 ∧ d < 1000000 ∨ k = 2 ∧ d < 26) (hl : l.length + (if k = 1 then zdigs d else [97 + d]).length ≤ N) :
    zwp (fn_Writer_writeLeaf N c f (nI k) (nI d)) (fun r => zstr N r.1 r.2 (l ++ (if k = 1 then zdigs d else [97 + d]))) := by
  unfold fn_Writer_writeLeaf
  rcases hk with ⟨rfl, hd⟩ | ⟨rfl, hd⟩
  · refine zwp_f (by decide) ?_
    rw [if_pos rfl] at hl ⊢
    rw [← zdgf_5] at hl ⊢
    exact sp_leafl hN hd 5 zFU c f l (by omega) (by decide) hs hl
  · refine zwp_t (by decide) ?_
    rw [if_neg (by omega)] at hl ⊢
    simp only [List.length_cons, List.length_nil] at hl
    rw [show (97 : Int32) = nI 97 from rfl, nI_add]
    exact zwp_seq (sp_put hN hs (by omega) (by omega)) (fun r hr => zwp_some hr)
end PL
/-- steps of a writer's work -/
def zc3 (k _d : Nat) : Nat := if k ≤ 2 then 1 else if 7 ≤ k ∧ k ≤ 12 then 3 else 2
theorem zT_le (c c' : Nat → Nat → Nat) (M : Nat) (hc : ∀ k d, 1 ≤ k → k ≤ 13 → c k d ≤ M * c' k d) {nd : List (Nat × Nat × Nat × Nat)} (h : znok nd) : ∀ (n i : Nat), i < n → i < nd.length → zTt c nd i ≤ M * zTt c' nd i
  | 0, _, h, _ => absurd h (Nat.not_lt_zero _)
  | n + 1, i, hn, hi => by
    have hq := List.getElem?_eq_getElem hi
    obtain ⟨l1, l2, l3, l4⟩ := znk_lt (h i _ hq)
    rw [zTt_eq c h hq, zTt_eq c' h hq]
    generalize nd[i] = q at *
    have h0 := hc q.1 q.2.1 l3 l4
    rw [Nat.mul_add, Nat.mul_add]
    have h1 : (if q.1 ≤ 2 then 0 else zTt c nd q.2.2.1) ≤ M * (if q.1 ≤ 2 then 0 else zTt c' nd q.2.2.1) := by
      by_cases e : q.1 ≤ 2
      · rw [if_pos e, if_pos e]; exact Nat.zero_le _
      · have := l1 e
        rw [if_neg e, if_neg e]; exact zT_le c c' M hc h n _ (by omega) (by omega)
    have h2 : (if 7 ≤ q.1 ∧ q.1 ≤ 12 then zTt c nd q.2.2.2 else 0) ≤ M * (if 7 ≤ q.1 ∧ q.1 ≤ 12 then zTt c' nd q.2.2.2 else 0) := by
      by_cases e : 7 ≤ q.1 ∧ q.1 ≤ 12
      · have := l2 e
        rw [if_pos e, if_pos e]; exact zT_le c c' M hc h n _ (by omega) (by omega)
      · rw [if_neg e, if_neg e]; exact Nat.zero_le _
    omega
theorem zc3_le (k d : Nat) (_ : 1 ≤ k) (_ : k ≤ 13) : zc3 k d ≤ 3 * zc1 k d := by
  unfold zc3 zc1
  rw [if_neg (by omega : ¬ k = 22)]
  repeat' split
  all_goals omega
theorem nI_mod3 (x : Nat) (hx : x < 2 ^ 20) : nI x - nI x / 3 * 3 = nI (x % 3) ∧ nI x / 3 = nI (x / 3) := by
  have e : nI x / 3 = nI (x / 3) := by rw [show (3 : Int32) = nI 3 from rfl, nI_divz (by omega) (by omega) (by omega)]
  refine ⟨?_, e⟩
  rw [e, show (3 : Int32) = nI 3 from rfl, nI_mulz, nI_sub (by omega)]
  congr 1; omega
/-- a step's text -/
def zpo (nd : List (Nat × Nat × Nat × Nat)) (x : Nat) : List Nat := if x % 3 = 0 then zprt nd (x / 3) else if x % 3 = 1 then zsym ((nd[x / 3]?).getD (0, 0, 0, 0)).1 else [41]
def zpos3 (nd : List (Nat × Nat × Nat × Nat)) (x : Nat) : Nat := if x % 3 = 0 then zTt zc3 nd (x / 3) else 1
def zcat {α : Type} (g : α → List Nat) : List α → List Nat
  | [] => []
  | a :: l => g a ++ zcat g l
section PS
variable {N : Nat} {tc : Int32} {tk td tl tr : Nat → Int32} {nd : List (Nat × Nat × Nat × Nat)}
theorem zTt3_pos (h : znok nd) {i : Nat} (hi : i < nd.length) : 1 ≤ zTt zc3 nd i := by
  rw [zTt_eq zc3 h (List.getElem?_eq_getElem hi)]
  have : 1 ≤ zc3 nd[i].1 nd[i].2.1 := by unfold zc3; repeat' split
                                         all_goals omega
  omega
theorem zpos3_pos (h : znok nd) {x : Nat} (hx : x / 3 < nd.length) : 1 ≤ zpos3 nd x := by
  unfold zpos3
  split
  · exact zTt3_pos h hx
  · omega
theorem zsu_len (h : znok nd) : ∀ W : List Nat, (∀ x ∈ W, x / 3 < nd.length) → W.length ≤ zsu (zpos3 nd) W
  | [], _ => Nat.le_refl _
  | x :: W, hW => by
    have h1 := zpos3_pos h (hW x (by simp))
    have h2 := zsu_len h W (fun y hy => hW y (by simp [hy]))
    simp only [zsu, List.length_cons]; omega
theorem sp_primesP (hN : N < 2 ^ 31) (d : Nat) (hd : d ≤ 3) : ∀ (n j : Nat) (c : Int32) (f : Nat → Int32) (l : List Nat), j ≤ d → d - j < n → zstr N c f l → l.length + (d - j) + 1 ≤ N → zwp (fn_Printer_writeStart_L70 N tc tk td n c f (nI d) (nI j)) (fun r => zstr N r.1 r.2 (l ++ (List.replicate (d - j) 39 ++ [40])))
  | 0, _, _, _, _, _, h, _, _ => absurd h (Nat.not_lt_zero _)
  | n + 1, j, c, f, l, hj, hn, hs, hl => by
    unfold fn_Printer_writeStart_L70
    by_cases he : j = d
    · refine zwp_t (nI_le (by omega) (by omega)) ?_
      have e : List.replicate (d - j) 39 = [] := by rw [he, Nat.sub_self]; rfl
      rw [e, List.nil_append]
      exact zwp_ret (sp_put (x := 40) hN hs (by omega) (by omega)) (fun r hr => hr)
    · refine zwp_f (nI_ge (by omega) (by omega)) (zwp_seq (sp_put (x := 39) hN hs (by omega) (by omega)) (fun r hr => ?_))
      rw [nI_add1]
      refine zwp_mono (sp_primesP hN d hd n (j + 1) _ _ _ (by omega) (by omega) hr (by rw [List.length_append]; simp only [List.length_cons, List.length_nil]; omega)) (fun u hu => ?_)
      rw [show d - j = (d - (j + 1)) + 1 by omega, List.replicate_succ]
      rw [List.append_assoc] at hu
      exact hu
/-- what a node's first step writes -/
def zps (q : Nat × Nat × Nat × Nat) : List Nat := if q.1 = 1 then zdigs q.2.1 else if q.1 = 2 then [97 + q.2.1] else if q.1 ≤ 6 then zsym q.1 ++ (List.replicate q.2.1 39 ++ [40]) else if q.1 = 13 then [40, 45] else [40]
theorem zps_13 {q : Nat × Nat × Nat × Nat} (h : q.1 = 13) : zps q = [40, 45] := by unfold zps; rw [if_neg (by omega), if_neg (by omega), if_neg (by omega), if_pos h]
theorem zps_b {q : Nat × Nat × Nat × Nat} (h : 7 ≤ q.1 ∧ q.1 ≤ 12) : zps q = [40] := by unfold zps; rw [if_neg (by omega), if_neg (by omega), if_neg (by omega), if_neg (by omega)]
theorem zps_f {q : Nat × Nat × Nat × Nat} (h : 3 ≤ q.1 ∧ q.1 ≤ 6) : zps q = zsym q.1 ++ (List.replicate q.2.1 39 ++ [40]) := by unfold zps; rw [if_neg (by omega), if_neg (by omega), if_pos h.2]
theorem zps_l {q : Nat × Nat × Nat × Nat} (h : q.1 = 1 ∨ q.1 = 2) : zps q = if q.1 = 1 then zdigs q.2.1 else [97 + q.2.1] := by
  unfold zps
  rcases h with h | h
  · rw [if_pos h, if_pos h]
  · rw [if_neg (by omega), if_pos h, if_neg (by omega)]
theorem zword31 : zword 31 = [40, 45] := by decide +kernel
theorem sp_startP (hN : N < 2 ^ 31) (hc : zct tc tk td tl tr nd) {i : Nat} {q : Nat × Nat × Nat × Nat} (hi : nd[i]? = some q) (hq : znk i q) (x3 : Int32) {c : Int32} {f : Nat → Int32} {l : List Nat} (hs : zstr N c f l) (hl : l.length + (zps q).length ≤ N) :
    zwp (fn_Printer_writeStart N tc tk td c f (nI i) x3) (fun r => zstr N r.1 r.2 (l ++ zps q)) := by
  obtain ⟨c1, c2, -, -⟩ := sp_tkind hc hi
  obtain ⟨-, -, l3, l4⟩ := znk_lt hq
  unfold fn_Printer_writeStart
  rw [c1, Option.bind_some, c2, Option.bind_some]
  obtain ⟨f1, -, f3, -⟩ := kfn q.1 (by omega)
  have e13 : nI q.1 = 13 ↔ q.1 = 13 := nI_inj (b := 13) (by omega) (by omega)
  by_cases h13 : q.1 = 13
  · rw [zps_13 h13] at hl ⊢
    refine zwp_t (e13.mpr h13) ?_
    rw [← zword31] at hl ⊢
    exact zwp_ret (sp_word hN 31 (by omega) hs hl) (fun r hr => hr)
  refine zwp_f (fun h => h13 (e13.mp h)) ?_
  by_cases hb : 7 ≤ q.1 ∧ q.1 ≤ 12
  · rw [zps_b hb] at hl ⊢
    refine zwp_f (by rw [f3, if_pos hb]; decide) ?_
    simp only [List.length_cons, List.length_nil] at hl
    exact zwp_ret (sp_put (x := 40) hN hs (by omega) (by omega)) (fun r hr => hr)
  refine zwp_t (by rw [f3, if_neg hb]) ?_
  by_cases hf : 3 ≤ q.1 ∧ q.1 ≤ 6
  · rw [zps_f hf] at hl ⊢
    refine zwp_f (by rw [f1, if_pos hf]; decide) ?_
    have hd : q.2.1 ≤ 3 := by
      unfold znk at hq
      rcases hq with ⟨h, -⟩ | ⟨h, -⟩ | ⟨-, -, h, -⟩ | ⟨h, -⟩ | ⟨h, -⟩
      · omega
      · omega
      · exact h
      · omega
      · omega
    simp only [List.length_append, List.length_replicate, List.length_cons, List.length_nil] at hl
    refine zwp_seq (sp_word hN _ (zsym_lt q.1 (by omega)) hs (by show l.length + (zsym q.1).length ≤ N; omega)) (fun r hr => ?_)
    refine zwp_mono (sp_primesP hN q.2.1 hd zFU 0 _ _ _ (Nat.zero_le _) (Nat.lt_of_le_of_lt (by omega : q.2.1 - 0 ≤ 3) (by decide)) hr (by rw [List.length_append]; show l.length + (zsym q.1).length + (q.2.1 - 0) + 1 ≤ N; omega)) (fun u hu => ?_)
    rw [Nat.sub_zero, List.append_assoc] at hu
    exact hu
  · refine zwp_t (by rw [f1, if_neg hf]) ?_
    have hk : q.1 = 1 ∧ q.2.1 < 1000000 ∨ q.1 = 2 ∧ q.2.1 < 26 := by
      unfold znk at hq
      rcases hq with h | h | ⟨h, -⟩ | ⟨h, -⟩ | ⟨h, -⟩
      · exact Or.inl h
      · exact Or.inr h
      · omega
      · omega
      · omega
    rw [zps_l (by omega)] at hl ⊢
    exact zwp_ret (sp_leaf hN hs hk hl) (fun r hr => hr)
/-- the steps that a node's first one plans -/
def zpl (i : Nat) (q : Nat × Nat × Nat × Nat) : List Nat := if q.1 ≤ 2 then [] else if 7 ≤ q.1 ∧ q.1 ≤ 12 then [q.2.2.1 * 3, i * 3 + 1, q.2.2.2 * 3, i * 3 + 2] else [q.2.2.1 * 3, i * 3 + 2]
theorem sp_planP (hc : zct tc tk td tl tr nd) {i : Nat} {q : Nat × Nat × Nat × Nat} (hi : nd[i]? = some q) (hq : znk i q) {Wc : Int32} {Wi : Nat → Int32} {W : List Nat} (hW : zstk nI 480 Wc Wi W) (hl : W.length + (zpl i q).length ≤ 480) :
    zwp (fn_PW_planOperands Wc Wi tc tl tr (nI i)) (fun r => zstk nI 480 r.1 r.2 (zpl i q ++ W)) := by
  obtain ⟨-, -, c3, c4⟩ := sp_tkind hc hi
  obtain ⟨l1, l2, l3, l4⟩ := znk_lt hq
  have hlt := zgetlt hi
  have hcap := hc.2.1
  unfold fn_PW_planOperands fn_PW_planOperands_b62
  rw [c3, Option.bind_some, c4, Option.bind_some]
  have m3 : ∀ a b : Nat, nI a * 3 + nI b = nI (a * 3 + b) := fun a b => by rw [show (3 : Int32) = nI 3 from rfl, nI_mulz, nI_add]
  unfold zpl at hl ⊢
  unfold zgl zgr
  by_cases h2 : q.1 ≤ 2
  · rw [if_pos h2, if_pos rfl, if_pos h2]; exact zwp_some hW
  · have hll := l1 h2
    rw [if_neg h2] at hl ⊢
    rw [if_neg h2, if_neg (nI_ne_neg (by omega) (by decide))]
    by_cases hb : 7 ≤ q.1 ∧ q.1 ≤ 12
    · have hrr := l2 hb
      rw [if_pos hb] at hl ⊢
      simp only [List.length_cons, List.length_nil] at hl
      refine zwp_seq (sp_push (g := nI) (i * 3 + 2) (by omega) hW (by omega) (m3 i 2)) (fun r1 h1 => ?_)
      rw [if_pos hb, if_neg (nI_ne_neg (by omega) (by decide))]
      refine zwp_seq (sp_push (g := nI) (q.2.2.2 * 3) (by omega) h1 (by simp only [List.length_cons]; omega) (m3 _ 0)) (fun r2 h2 => ?_)
      refine zwp_seq (sp_push (g := nI) (i * 3 + 1) (by omega) h2 (by simp only [List.length_cons]; omega) (m3 i 1)) (fun r3 h3 => ?_)
      exact zwp_ret (sp_push (g := nI) (q.2.2.1 * 3) (by omega) h3 (by simp only [List.length_cons]; omega) (m3 _ 0)) (fun r hr => hr)
    · rw [if_neg hb] at hl ⊢
      simp only [List.length_cons, List.length_nil] at hl
      refine zwp_seq (sp_push (g := nI) (i * 3 + 2) (by omega) hW (by omega) (m3 i 2)) (fun r1 h1 => ?_)
      rw [if_neg hb, if_pos rfl]
      exact zwp_ret (sp_push (g := nI) (q.2.2.1 * 3) (by omega) h1 (by simp only [List.length_cons]; omega) (m3 _ 0)) (fun r hr => hr)
end PS
section PS
variable {N : Nat} {tc : Int32} {tk td tl tr : Nat → Int32} {nd : List (Nat × Nat × Nat × Nat)}
theorem zpo_plan (h : znok nd) {i : Nat} {q : Nat × Nat × Nat × Nat} (hq : nd[i]? = some q) (W : List Nat) : zps q ++ zcat (zpo nd) (zpl i q ++ W) = zprt nd i ++ zcat (zpo nd) W := by
  obtain ⟨l1, l2, l3, l4⟩ := znk_lt (h i q hq)
  have o0 : ∀ a, zpo nd (a * 3) = zprt nd a := fun a => by unfold zpo; rw [if_pos (by omega), Nat.mul_div_cancel _ (by omega)]
  have o1 : zpo nd (i * 3 + 1) = zsym q.1 := by unfold zpo; rw [if_neg (by omega), if_pos (by omega), show (i * 3 + 1) / 3 = i by omega, hq]; rfl
  have o2 : zpo nd (i * 3 + 2) = [41] := by unfold zpo; rw [if_neg (by omega), if_neg (by omega)]
  rw [zprt_eq h hq]
  unfold zpl
  by_cases h2 : q.1 ≤ 2
  · rw [if_pos h2, zps_l (by omega), List.nil_append]
    by_cases h1 : q.1 = 1
    · rw [if_pos h1, if_pos h1]
    · rw [if_neg h1, if_neg h1, if_pos (by omega)]
  · rw [if_neg h2, if_neg (by omega : ¬ q.1 = 1), if_neg (by omega : ¬ q.1 = 2)]
    by_cases hb : 7 ≤ q.1 ∧ q.1 ≤ 12
    · rw [if_pos hb, zps_b hb, if_neg (by omega), if_neg (by omega)]
      simp only [List.cons_append, List.nil_append, zcat, o0, o1, o2, List.append_assoc]
    · rw [if_neg hb]
      by_cases h13 : q.1 = 13
      · rw [zps_13 h13, if_neg (by omega), if_pos h13]
        simp only [List.cons_append, List.nil_append, zcat, o0, o2, List.append_assoc]
      · rw [zps_f (by omega), if_pos (by omega)]
        simp only [List.cons_append, List.nil_append, zcat, o0, o2, List.append_assoc]
theorem zpl_steps (h : znok nd) {i : Nat} {q : Nat × Nat × Nat × Nat} (hq : nd[i]? = some q) : zsu (zpos3 nd) (zpl i q) + 1 = zTt zc3 nd i ∧ (∀ x ∈ zpl i q, x / 3 < nd.length) := by
  obtain ⟨l1, l2, l3, l4⟩ := znk_lt (h i q hq)
  have hlt := zgetlt hq
  have o0 : ∀ a, zpos3 nd (a * 3) = zTt zc3 nd a := fun a => by unfold zpos3; rw [if_pos (by omega), Nat.mul_div_cancel _ (by omega)]
  have o1 : zpos3 nd (i * 3 + 1) = 1 := by unfold zpos3; rw [if_neg (by omega)]
  have o2 : zpos3 nd (i * 3 + 2) = 1 := by unfold zpos3; rw [if_neg (by omega)]
  rw [zTt_eq zc3 h hq]
  unfold zpl
  rw [show zc3 q.1 q.2.1 = (if q.1 ≤ 2 then 1 else if 7 ≤ q.1 ∧ q.1 ≤ 12 then 3 else 2) from rfl]
  by_cases h2 : q.1 ≤ 2
  · rw [if_pos h2, if_pos h2, if_pos h2, if_neg (by omega)]; exact ⟨rfl, by simp⟩
  · have hll := l1 h2
    rw [if_neg h2, if_neg h2, if_neg h2]
    by_cases hb : 7 ≤ q.1 ∧ q.1 ≤ 12
    · have hrr := l2 hb
      rw [if_pos hb, if_pos hb, if_pos hb]
      simp only [zsu, o0, o1, o2]
      refine ⟨by omega, ?_⟩
      intro x hx
      simp only [List.mem_cons, List.mem_nil_iff, or_false] at hx
      rcases hx with rfl | rfl | rfl | rfl <;> omega
    · rw [if_neg hb, if_neg hb, if_neg hb]
      simp only [zsu, o0, o1, o2]
      refine ⟨by omega, ?_⟩
      intro x hx
      simp only [List.mem_cons, List.mem_nil_iff, or_false] at hx
      rcases hx with rfl | rfl <;> omega
theorem sp_sumP (hN : N < 2 ^ 31) (hc : zct tc tk td tl tr nd) (hok : znok nd) (root : Nat) (hroot : root < nd.length) : ∀ (n st : Nat) (W : List Nat) (Wc : Int32) (Wi : Nat → Int32) (c : Int32) (f : Nat → Int32) (l : List Nat),
    480 - st < n → zstk nI 480 Wc Wi W → zstr N c f l → (∀ x ∈ W, x / 3 < nd.length) → st + zsu (zpos3 nd) W ≤ 480 → l.length + (zcat (zpo nd) W).length ≤ N →
    zwp (fn_PW_writeSum_L22 N tc tk td tl tr n Wc Wi c f (nI root) (nI st)) (fun r => zstr N r.2.2.1 r.2.2.2 (l ++ zcat (zpo nd) W))
  | 0, _, _, _, _, _, _, _, h, _, _, _, _, _ => absurd h (Nat.not_lt_zero _)
  | n + 1, st, W, Wc, Wi, c, f, l, hn, hW, hs, hv, hst, hl => by
    have hcap := hc.2.1
    unfold fn_PW_writeSum_L22 fn_IntStack_size
    cases W with
    | nil =>
      have e : l ++ zcat (zpo nd) [] = l := List.append_nil l
      rw [e]
      refine zwp_ite (fun _ => zwp_some hs) (fun _ => zwp_t (by rw [hW.1]; exact Int32.le_refl _) (zwp_some hs))
    | cons x W =>
      have hx := hv x (by simp)
      have hp := zpos3_pos hok hx
      have hst' : st + (zpos3 nd x + zsu (zpos3 nd) W) ≤ 480 := hst
      refine zwp_f (show ¬ (480 : Int32) ≤ nI st from nI_ge (b := 480) (by omega) (by omega)) (zwp_f ?_ ?_)
      · rw [hW.1, List.length_cons]; exact nI_ge (a := 0) (by omega) (by have := hW.2.1; simp only [List.length_cons] at this; omega)
      rw [sp_pop (by omega) hW, Option.bind_some]
      dsimp only
      obtain ⟨m1, m2⟩ := nI_mod3 x (by omega)
      rw [m1, m2]
      have hWt := zstk_tail hW
      have hvt : ∀ y ∈ W, y / 3 < nd.length := fun y hy => hv y (by simp [hy])
      have hl' : l.length + (zpo nd x ++ zcat (zpo nd) W).length ≤ N := hl
      rw [List.length_append] at hl'
      have hq := List.getElem?_eq_getElem hx
      have h81 : ∀ k3 : Int32, x % 3 = 0 → zwp (fn_PW_writeSum_b81 N tc tk td tl tr (fn_PW_writeSum_L22 N tc tk td tl tr n) (nI W.length) Wi c f (nI root) (nI st) (nI (x / 3)) (nI (x / 3)) k3) (fun r => zstr N r.2.2.1 r.2.2.2 (l ++ zcat (zpo nd) (x :: W))) := by
        intro k3 h0
        have e0 : zpo nd x = zprt nd (x / 3) := by unfold zpo; rw [if_pos h0]
        have e1 : zpos3 nd x = zTt zc3 nd (x / 3) := by unfold zpos3; rw [if_pos h0]
        obtain ⟨s1, s2⟩ := zpl_steps hok hq
        have hpl := zpo_plan hok hq W
        have hlen := congrArg List.length hpl
        rw [List.length_append, List.length_append] at hlen
        have hWl := zsu_len hok (zpl (x / 3) nd[x / 3] ++ W) (fun y hy => by
          rcases List.mem_append.mp hy with h | h
          · exact s2 y h
          · exact hvt y h)
        rw [List.length_append, zsu_app] at hWl
        unfold fn_PW_writeSum_b81 fn_PW_writeSum_b134
        refine zwp_seq (sp_startP hN hc hq (hok _ _ hq) k3 hs (by rw [e0] at hl'; omega)) (fun r hr => ?_)
        refine zwp_seq (sp_planP hc hq (hok _ _ hq) hWt (by omega)) (fun u hu => ?_)
        rw [nI_add1]
        refine zwp_mono (sp_sumP hN hc hok root hroot n (st + 1) _ _ _ _ _ _ (by omega) hu hr (fun y hy => by
          rcases List.mem_append.mp hy with h | h
          · exact s2 y h
          · exact hvt y h) (by rw [zsu_app]; omega) (by have h9 := hl'; rw [e0] at h9; rw [List.length_append]; omega)) (fun v hv => ?_)
        rw [List.append_assoc, hpl, ← e0] at hv
        exact hv
      by_cases h0 : x % 3 = 0
      · refine zwp_t (by rw [h0]; rfl) (zwp_ite (fun _ => h81 1 h0) (fun _ => h81 0 h0))
      · have e1 : zpos3 nd x = 1 := by unfold zpos3; rw [if_neg h0]
        refine zwp_f (nI_ne0 (by omega) (by omega)) ?_
        have hnx : ∀ c' f', zstr N c' f' (l ++ zpo nd x) → zwp (fn_PW_writeSum_L22 N tc tk td tl tr n (nI W.length) Wi c' f' (nI root) (nI (st + 1))) (fun r => zstr N r.2.2.1 r.2.2.2 (l ++ zcat (zpo nd) (x :: W))) := by
          intro c' f' h
          refine zwp_mono (sp_sumP hN hc hok root hroot n (st + 1) W _ _ c' f' _ (by omega) hWt h hvt (by omega) (by rw [List.length_append]; omega)) (fun r hr => ?_)
          rw [List.append_assoc] at hr; exact hr
        by_cases h1 : x % 3 = 1
        · refine zwp_t (by rw [h1]; rfl) ?_
          rw [(sp_tkind hc hq).1, Option.bind_some]
          unfold fn_Printer_writeBetween fn_PW_writeSum_b134
          rw [nI_add1]
          obtain ⟨-, -, l3, l4⟩ := znk_lt (hok _ _ hq)
          have e2 : zpo nd x = zword (fn_Parser_symbolOf (nI nd[x / 3].1)) := by unfold zpo; rw [if_neg h0, if_pos h1, hq]; rfl
          rw [e2] at hl'
          refine zwp_seq (Q := fun r => zstr N r.1 r.2 (l ++ zword (fn_Parser_symbolOf (nI nd[x / 3].1)))) (zwp_ret (sp_word hN _ (zsym_lt nd[x / 3].1 (by omega)) hs (by omega)) (fun r hr => hr)) (fun r hr => ?_)
          exact hnx _ _ (by rw [e2]; exact hr)
        · refine zwp_f (fun h => h1 ((nI_inj (b := 1) (by omega) (by omega)).mp h)) ?_
          have e2 : zpo nd x = [41] := by unfold zpo; rw [if_neg h0, if_neg h1]
          have h130 : ∀ k3 : Int32, zwp (fn_PW_writeSum_b130 N tc tk td tl tr (fn_PW_writeSum_L22 N tc tk td tl tr n) (nI W.length) Wi c f (nI root) (nI st) (nI (x / 3)) k3) (fun r => zstr N r.2.2.1 r.2.2.2 (l ++ zcat (zpo nd) (x :: W))) := by
            intro k3
            unfold fn_PW_writeSum_b130 fn_PW_writeSum_b134 fn_Printer_writeEnd
            rw [nI_add1]
            rw [e2] at hl'
            simp only [List.length_cons, List.length_nil] at hl'
            refine zwp_seq (Q := fun r => zstr N r.1 r.2 (l ++ [41])) (zwp_ret (sp_put (x := 41) hN hs (by omega) (by omega)) (fun r hr => hr)) (fun r hr => ?_)
            exact hnx _ _ (by rw [e2]; exact hr)
          exact zwp_ite (fun _ => h130 1) (fun _ => h130 0)
/-- a sum, printed by the class -/
theorem sp_sumPr (hN : N < 2 ^ 31) (hc : zct tc tk td tl tr nd) (hok : znok nd) {root : Nat} (hroot : root < nd.length) (h1 : zTt zc1 nd root ≤ 160) (Wc : Int32) (Wi : Nat → Int32) {c : Int32} {f : Nat → Int32} {l : List Nat} (hs : zstr N c f l) (hl : l.length + (zprt nd root).length ≤ N) :
    zwp (fn_PW_writeSum N Wc Wi tc tk td tl tr c f (nI root)) (fun r => zstr N r.2.2.1 r.2.2.2 (l ++ zprt nd root)) := by
  have hcap := hc.2.1
  have h3 := zT_le zc3 zc1 3 zc3_le hok (root + 1) root (by omega) hroot
  unfold fn_PW_writeSum fn_IntStack_clear
  have e0 : zpo nd (root * 3) = zprt nd root := by unfold zpo; rw [if_pos (by omega), Nat.mul_div_cancel _ (by omega)]
  have e1 : zpos3 nd (root * 3) = zTt zc3 nd root := by unfold zpos3; rw [if_pos (by omega), Nat.mul_div_cancel _ (by omega)]
  refine zwp_seq (sp_push (g := nI) (N := 480) (root * 3) (by omega) zstk_nil (by decide) (by rw [show (3 : Int32) = nI 3 from rfl, nI_mulz]; exact Int32.add_zero _)) (fun r hr => ?_)
  have := sp_sumP hN hc hok root hroot zFU 0 [root * 3] _ _ c f l (by decide) hr hs (by intro x hx; rw [List.mem_singleton] at hx; subst hx; omega) (by simp only [zsu, e1]; omega) (by simp only [zcat, e0, List.append_nil]; exact hl)
  simp only [zcat, e0, List.append_nil] at this
  exact this
end PS
section PQ
variable {N : Nat} {tc ts : Int32} {tk td tl tr to tj : Nat → Int32} {nd : List (Nat × Nat × Nat × Nat)} {S : List (Nat × Nat)}
theorem zprall_len (hok : znok nd) : ∀ S : List (Nat × Nat), (∀ q ∈ S, q.2 < nd.length) → (∀ q ∈ S, q.1 = 0 ∨ 14 ≤ q.1 ∧ q.1 ≤ 21) → (zprall nd S).length = zcost zcp zjp nd S
  | [], _, _ => rfl
  | q :: S, h, hj => by
    have h1 := zprt_len hok (q.2 + 1) q.2 (by omega) (h q (by simp))
    have h2 := zprall_len hok S (fun x hx => h x (by simp [hx])) (fun x hx => hj x (by simp [hx]))
    have h3 : (if q.1 = 0 then [] else zsym q.1).length = zjp q.1 := by
      rcases hj q (by simp) with h0 | h0
      · rw [if_pos h0, h0]; rfl
      · rw [if_neg (by omega)]; exact (zsym_len q.1 (by omega)).2.2 h0
    show ((if q.1 = 0 then [] else zsym q.1) ++ (zprt nd q.2 ++ zprall nd S)).length = (zTt zcp nd q.2 + zjp q.1) + zcost zcp zjp nd S
    rw [List.length_append, List.length_append]; omega
/-- what sums' joints are -/
def zjok (S : List (Nat × Nat)) : Prop := ∀ (i : Nat) (q : Nat × Nat), S[i]? = some q → (i = 0 ∧ q.1 = 0) ∨ (0 < i ∧ 14 ≤ q.1 ∧ q.1 ≤ 21)
theorem zjok_of {J : List Nat} (hJ : S.map (fun q => q.1) = 0 :: J) (hl : zlk J) : zjok S := by
  intro i q hi
  have := zsj hJ hi
  cases i with
  | zero => simp at this; exact Or.inl ⟨rfl, this.symm⟩
  | succ i =>
    rw [List.getElem?_cons_succ] at this
    have := zlk_lt J.length J (Nat.le_refl _) hl q.1 (List.mem_of_getElem? this)
    exact Or.inr ⟨by omega, this⟩
theorem zjok_mem (h : zjok S) : ∀ q ∈ S, q.1 = 0 ∨ 14 ≤ q.1 ∧ q.1 ≤ 21 := by
  intro q hq
  obtain ⟨i, hi⟩ := List.getElem?_of_mem hq
  rcases h i q hi with ⟨-, h⟩ | ⟨-, h⟩
  · exact Or.inl h
  · exact Or.inr h
theorem sp_wrP (hN : N < 2 ^ 31) (hc : zctree tc ts tk td tl tr to tj nd S) (hok : znok nd) (h9 : S.length ≤ 9) (hr : ∀ q ∈ S, q.2 < nd.length) (hj : zjok S) (h1 : ∀ q ∈ S, zTt zc1 nd q.2 ≤ 160) : ∀ (n i : Nat) (Wc : Int32) (Wi : Nat → Int32) (c : Int32) (f : Nat → Int32) (l : List Nat),
    i ≤ S.length → S.length - i < n → zstr N c f l → l.length + (zprall nd (S.drop i)).length ≤ N →
    zwp (fn_PW_write_L6 N tc ts tk td tl tr to tj n Wc Wi c f (nI i)) (fun r => zstr N r.2.2.1 r.2.2.2 (l ++ zprall nd (S.drop i)))
  | 0, _, _, _, _, _, _, _, h, _, _ => absurd h (Nat.not_lt_zero _)
  | n + 1, i, Wc, Wi, c, f, l, hi, hn, hs, hl => by
    unfold fn_PW_write_L6 fn_Tree_sumCount
    by_cases he : i = S.length
    · refine zwp_t (by rw [hc.2.1]; exact nI_le (by omega) (by omega)) (zwp_some ?_)
      rw [he, List.drop_length]
      show zstr N c f (l ++ [])
      rw [List.append_nil]; exact hs
    · have hlt : i < S.length := by omega
      have hq := List.getElem?_eq_getElem hlt
      have hd : S.drop i = S[i] :: S.drop (i + 1) := List.drop_eq_getElem_cons hlt
      rw [hd] at hl ⊢
      have hl' : l.length + ((if S[i].1 = 0 then [] else zsym S[i].1) ++ (zprt nd S[i].2 ++ zprall nd (S.drop (i + 1)))).length ≤ N := hl
      rw [List.length_append, List.length_append] at hl'
      refine zwp_f (by rw [hc.2.1]; exact nI_ge hlt (by omega)) ?_
      have h28 : ∀ c' f', zstr N c' f' (l ++ (if S[i].1 = 0 then [] else zsym S[i].1)) → zwp (fn_PW_write_b28 N tc ts tk td tl tr to tj (fn_PW_write_L6 N tc ts tk td tl tr to tj n) Wc Wi c' f' (nI i)) (fun r => zstr N r.2.2.1 r.2.2.2 (l ++ zprall nd (S[i] :: S.drop (i + 1)))) := by
        intro c' f' h
        unfold fn_PW_write_b28
        rw [sp_root hc.2.1 h9 hc.2.2.1 hq, Option.bind_some]
        have hm : S[i] ∈ S := List.getElem_mem hlt
        refine zwp_seq (sp_sumPr hN hc.1 hok (hr _ hm) (h1 _ hm) Wc Wi h (by rw [List.length_append]; omega)) (fun r hr' => ?_)
        rw [nI_add1]
        refine zwp_mono (sp_wrP hN hc hok h9 hr hj h1 n (i + 1) _ _ _ _ _ hlt (by omega) hr' (by rw [List.length_append, List.length_append]; omega)) (fun u hu => ?_)
        rw [List.append_assoc, List.append_assoc] at hu
        exact hu
      rcases hj i _ hq with ⟨hi0, h0⟩ | ⟨hi0, h14⟩
      · refine zwp_t (by rw [hi0]; exact Int32.le_refl _) (h28 c f ?_)
        rw [if_pos h0, List.append_nil]; exact hs
      · refine zwp_f (show ¬ nI i ≤ 0 from nI_ge (a := 0) (by omega) (by omega)) ?_
        rw [sp_joint hc.2.1 h9 hc.2.2.2 hq, Option.bind_some]
        unfold fn_Printer_writeBetween
        rw [if_neg (by omega)] at hl'
        refine zwp_seq (Q := fun r => zstr N r.1 r.2 (l ++ zsym S[i].1)) (zwp_ret (sp_word hN _ (zsym_lt S[i].1 (by omega)) hs (by show l.length + (zsym S[i].1).length ≤ N; omega)) (fun r hr => hr)) (fun r hr' => h28 _ _ ?_)
        rw [if_neg (by omega)]; exact hr'
/-- the class's printed text -/
theorem sp_writeP (hc : zctree tc ts tk td tl tr to tj nd S) (hok : znok nd) (h9 : S.length ≤ 9) (hr : ∀ q ∈ S, q.2 < nd.length) (hj : zjok S) (hc1 : zcost zc1 (fun _ => 0) nd S ≤ 160) (hcp : zcost zcp zjp nd S ≤ 320) (Wc : Int32) (Wi : Nat → Int32) (c : Int32) (f : Nat → Int32) :
    zwp (fn_PW_write 320 Wc Wi tc ts tk td tl tr to tj c f) (fun r => zstr 320 r.2.2.1 r.2.2.2 (zprall nd S)) := by
  unfold fn_PW_write fn_CharRow_clear
  have h1 : ∀ q ∈ S, zTt zc1 nd q.2 ≤ 160 := fun q hq => by
    have := zsu_mem (fun q : Nat × Nat => zTt zc1 nd q.2 + (fun _ => 0) q.1) S q hq
    exact Nat.le_trans (by omega) (Nat.le_trans this hc1)
  have := sp_wrP (N := 320) (by omega) hc hok h9 hr hj h1 zFU 0 Wc Wi 0 f [] (Nat.zero_le _) (Nat.lt_of_le_of_lt (by omega : S.length - 0 ≤ 9) (by decide)) zstr_nil (by rw [List.drop_zero, zprall_len hok S hr (zjok_mem hj)]; simpa using hcp)
  rw [List.drop_zero, List.nil_append] at this
  exact this
end PQ
/-! The reference prints. -/
/-- the reference's output holds l -/
def zro (c : Int32) (f : Nat → Int32) (l : List Nat) : Prop := c = nI l.length ∧ zrw f nI l
theorem rp_puts {c : Int32} {f : Nat → Int32} {l : List Nat} (x : Nat) {y : Int32} (h : zro c f l) (hl : l.length < 2500) (hy : y = nI x) : zwp (fn_Ref_puts c f y) (fun r => zro r.1 r.2 (l ++ [x])) := by
  obtain ⟨rfl, h1⟩ := h
  unfold fn_Ref_puts
  refine zwp_f (nI_in hl (by omega)) (zwp_some ⟨?_, ?_⟩)
  · show nI l.length + 1 = _; rw [nI_add1, List.length_append]; rfl
  · show zrw (upd f (nI l.length).toNatClampNeg y) _ _; rw [nI_clamp (by omega)]; exact zrw_push h1 hy
/-- tasks: a node, or a character -/
def ztg (q : Nat × Nat) : Int32 := if q.1 = 0 then nI q.2 else -(nI q.2)
def ztk2 (c : Int32) (f : Nat → Int32) (W : List (Nat × Nat)) : Prop := c = nI W.length ∧ zst ztg f W
theorem rp_later {c : Int32} {f : Nat → Int32} {W : List (Nat × Nat)} (a : Nat × Nat) {y : Int32} (h : ztk2 c f W) (hl : W.length < 1000) (hy : y = ztg a) : zwp (fn_Ref_later c f y) (fun r => ztk2 r.1 r.2 (a :: W)) := by
  obtain ⟨rfl, h1⟩ := h
  unfold fn_Ref_later
  refine zwp_f (nI_in hl (by omega)) (zwp_some ⟨?_, ?_⟩)
  · show nI W.length + 1 = _; rw [nI_add1]; rfl
  · show zst ztg (upd f (nI W.length).toNatClampNeg y) _; rw [nI_clamp (by omega)]; exact zst_push h1 hy
/-- all digits from the unit 10 ^ m on -/
def zdgr : Nat → Nat → List Nat
  | 0, d => [48 + d % 10]
  | m + 1, d => (48 + d / 10 ^ (m + 1) % 10) :: zdgr m d
theorem zdgf_r : ∀ m d, 10 ^ m ≤ d → zdgf m d = zdgr m d
  | 0, d, _ => rfl
  | m + 1, d, h => by
    have : 10 ^ m ≤ 10 ^ (m + 1) := Nat.pow_le_pow_right (by omega) (by omega)
    unfold zdgf zdgr
    rw [if_pos h, zdgf_r m d (by omega)]; rfl
theorem zdgr_len : ∀ m d, (zdgr m d).length = m + 1
  | 0, _ => rfl
  | m + 1, d => by unfold zdgr; rw [List.length_cons, zdgr_len m d]
theorem rp_digits {d : Nat} (hd : d < 1000000) : ∀ (m n : Nat) (c : Int32) (f : Nat → Int32) (l : List Nat), m ≤ 5 → m + 1 < n → zro c f l → l.length + m + 1 ≤ 2500 → zwp (fn_Ref_number_L22 n c f (nI d) (nI (10 ^ m))) (fun r => zro r.1 r.2 (l ++ zdgr m d))
  | _, 0, _, _, _, _, h, _, _ => absurd h (Nat.not_lt_zero _)
  | m, n + 1, c, f, l, hm, hn, hs, hl => by
    have hp : 10 ^ m ≤ 100000 := Nat.le_trans (Nat.pow_le_pow_right (by omega) hm) (by decide)
    have hp0 : 0 < 10 ^ m := Nat.pow_pos (by omega)
    obtain ⟨z1, z2⟩ := zdigit hd hp0 hp
    unfold fn_Ref_number_L22
    refine zwp_f (show ¬ nI (10 ^ m) ≤ 0 from nI_ge (a := 0) (by omega) (by omega)) (zwp_f (nI_ne0 hp0 (by omega)) ?_)
    refine zwp_seq (rp_puts (48 + d / 10 ^ m % 10) hs (by omega) z1) (fun r hr => ?_)
    cases m with
    | zero =>
      cases n with
      | zero => omega
      | succ n =>
        unfold fn_Ref_number_L22
        refine zwp_t (by decide) (zwp_some ?_)
        rw [Nat.pow_zero, Nat.div_one] at hr; exact hr
    | succ m =>
      have e10 : nI (10 ^ (m + 1)) / 10 = nI (10 ^ m) := by
        rw [show (10 : Int32) = nI 10 from rfl, nI_divz (by omega) (by omega) (by omega), Nat.pow_succ, Nat.mul_div_cancel _ (by omega)]
      rw [e10]
      refine zwp_mono (rp_digits hd m n _ _ _ (by omega) (by omega) hr (by rw [List.length_append]; simp only [List.length_cons, List.length_nil]; omega)) (fun u hu => ?_)
      rw [List.append_assoc] at hu; exact hu
theorem rp_numl {d : Nat} (hd : d < 1000000) : ∀ (m n : Nat) (c : Int32) (f : Nat → Int32) (l : List Nat), m ≤ 5 → m < n → zro c f l → l.length + m + 1 ≤ 2500 → zwp (fn_Ref_number_L4 n c f (nI d) (nI (10 ^ m))) (fun r => zro r.1 r.2 (l ++ zdgf m d))
  | _, 0, _, _, _, _, h, _, _ => absurd h (Nat.not_lt_zero _)
  | m, n + 1, c, f, l, hm, hn, hs, hl => by
    have hp : 10 ^ m ≤ 100000 := Nat.le_trans (Nat.pow_le_pow_right (by omega) hm) (by decide)
    have hp0 : 0 < 10 ^ m := Nat.pow_pos (by omega)
    have hF : m + 1 < zFU := Nat.lt_of_le_of_lt (by omega : m + 1 ≤ 6) (by decide)
    unfold fn_Ref_number_L4
    cases m with
    | zero =>
      refine zwp_t (by decide) ?_
      exact rp_digits hd 0 zFU c f l (by omega) hF hs (by omega)
    | succ m =>
      have h10 : 10 ^ 1 ≤ 10 ^ (m + 1) := Nat.pow_le_pow_right (by omega) (by omega)
      refine zwp_f (show ¬ nI (10 ^ (m + 1)) ≤ 1 from nI_ge (a := 1) (by omega) (by omega)) ?_
      by_cases hle : 10 ^ (m + 1) ≤ d
      · refine zwp_t (nI_le hle (by omega)) ?_
        rw [zdgf_r _ _ hle]
        exact rp_digits hd (m + 1) zFU c f l hm hF hs (by omega)
      · refine zwp_f (nI_ge (by omega) (by omega)) ?_
        have e10 : nI (10 ^ (m + 1)) / 10 = nI (10 ^ m) := by
          rw [show (10 : Int32) = nI 10 from rfl, nI_divz (by omega) (by omega) (by omega), Nat.pow_succ, Nat.mul_div_cancel _ (by omega)]
        rw [e10]
        refine zwp_mono (rp_numl hd m n c f l (by omega) (by omega) hs (by omega)) (fun r hr => ?_)
        rw [zdgf, if_neg hle, List.nil_append]; exact hr
theorem rp_number2 {d : Nat} (hd : d < 1000000) {c : Int32} {f : Nat → Int32} {l : List Nat} (hs : zro c f l) (hl : l.length + 6 ≤ 2500) : zwp (fn_Ref_number c f (nI d)) (fun r => zro r.1 r.2 (l ++ zdigs d)) := by
  unfold fn_Ref_number
  rw [← zdgf_5]
  exact rp_numl hd 5 zFU c f l (by omega) (by decide) hs (by omega)
theorem zsym_f : zsym 3 = [97, 98, 115] ∧ zsym 4 = [115, 103, 110] ∧ zsym 5 = [115, 113, 114] ∧ zsym 6 = [100, 98, 108] := by decide +kernel
theorem rp_name {k : Nat} (hk : 3 ≤ k ∧ k ≤ 6) {c : Int32} {f : Nat → Int32} {l : List Nat} (hs : zro c f l) (hl : l.length + 3 ≤ 2500) : zwp (fn_Ref_name c f (nI (k - 3))) (fun r => zro r.1 r.2 (l ++ zsym k)) := by
  have h3 : ∀ (a b e : Nat), zwp ((fn_Ref_puts c f (nI a)).bind fun q => (fn_Ref_puts q.1 q.2 (nI b)).bind fun q' => (fn_Ref_puts q'.1 q'.2 (nI e)).bind fun q'' => some (q''.1, q''.2)) (fun r => zro r.1 r.2 (l ++ [a, b, e])) := by
    intro a b e
    refine zwp_seq (rp_puts a hs (by omega) rfl) (fun r1 h1 => ?_)
    refine zwp_seq (rp_puts b h1 (by rw [List.length_append]; simp only [List.length_cons, List.length_nil]; omega) rfl) (fun r2 h2 => ?_)
    refine zwp_ret (rp_puts e h2 (by rw [List.length_append, List.length_append]; simp only [List.length_cons, List.length_nil]; omega) rfl) (fun r hr => ?_)
    rw [List.append_assoc, List.append_assoc] at hr; exact hr
  obtain ⟨s3, s4, s5, s6⟩ := zsym_f
  have hk' : k = 3 ∨ k = 4 ∨ k = 5 ∨ k = 6 := by omega
  rcases hk' with rfl | rfl | rfl | rfl
  · rw [s3]; exact h3 97 98 115
  · rw [s4]; exact h3 115 103 110
  · rw [s5]; exact h3 115 113 114
  · rw [s6]; exact h3 100 98 108
section RP
variable {mn : Int32} {ms ml mr mw : Nat → Int32} {nd : List (Nat × Nat × Nat × Nat)}
/-- a task's text -/
def zrpo (nd : List (Nat × Nat × Nat × Nat)) (x : Nat × Nat) : List Nat := if x.1 = 0 then zprt nd x.2 else [x.2]
def zrok (nd : List (Nat × Nat × Nat × Nat)) (x : Nat × Nat) : Prop := (x.1 = 0 ∧ x.2 < nd.length) ∨ (x.1 = 1 ∧ 0 < x.2 ∧ x.2 < 128)
/-- what a node's task writes at once, and what it leaves for later -/
def zrps (q : Nat × Nat × Nat × Nat) : List Nat := if q.1 = 13 then [40] else zps q
def zrpl (q : Nat × Nat × Nat × Nat) : List (Nat × Nat) := if q.1 ≤ 2 then [] else if q.1 ≤ 6 then [(0, q.2.2.1), (1, 41)] else if q.1 = 13 then [(1, 45), (0, q.2.2.1), (1, 41)] else [(0, q.2.2.1), (1, (zsym q.1).getD 0 0), (0, q.2.2.2), (1, 41)]
theorem zsgn_tab : ∀ k, k < 14 → 7 ≤ k → fn_Ref_signOfSort (nI (zka k)) = nI (if k = 13 then 45 else (zsym k).getD 0 0) ∧ (k ≤ 12 → zsym k = [(zsym k).getD 0 0] ∧ 0 < (zsym k).getD 0 0 ∧ (zsym k).getD 0 0 < 128) := by decide +kernel
theorem rp_primes (hr : zrt mn ms ml mr mw nd) {i : Nat} {q : Nat × Nat × Nat × Nat} (hi : nd[i]? = some q) (hk : 3 ≤ q.1 ∧ q.1 ≤ 6) (hd : q.2.1 ≤ 3) : ∀ (n j : Nat) (oc tc : Int32) (o t : Nat → Int32) (l : List Nat), j ≤ q.2.1 → q.2.1 - j < n → zro oc o l → l.length + (q.2.1 - j) + 1 ≤ 2500 →
    zwp (fn_Ref_prints_L85 ms ml mr mw n oc tc o t (nI i) (nI j)) (fun r => zro r.1 r.2.2.1 (l ++ (List.replicate (q.2.1 - j) 39 ++ [40])) ∧ r.2.1 = tc ∧ r.2.2.2 = t)
  | 0, _, _, _, _, _, _, _, h, _, _ => absurd h (Nat.not_lt_zero _)
  | n + 1, j, oc, tc, o, t, l, hj, hn, hs, hl => by
    have hlt := zgetlt hi
    have hcap := hr.2.1
    unfold fn_Ref_prints_L85
    have hw : mw i / 4 = nI q.2.1 := by
      rw [hr.2.2.2.2.2 i q hi]
      unfold zrh zwt
      rw [if_neg (by omega), if_pos hk, show (4 : Int32) = nI 4 from rfl, nI_divz (by omega) (by omega) (by omega)]
      congr 1; omega
    rw [nI_clamp (by omega : i < 2 ^ 31), hw]
    refine zwp_f (nI_in2 (by omega) (by omega)) ?_
    by_cases he : j = q.2.1
    · refine zwp_t (nI_le (by omega) (by omega)) ?_
      have e : List.replicate (q.2.1 - j) 39 = [] := by rw [he, Nat.sub_self]; rfl
      rw [e, List.nil_append]
      exact zwp_ret (rp_puts 40 hs (by omega) rfl) (fun r hr => ⟨hr, rfl, rfl⟩)
    · refine zwp_f (nI_ge (by omega) (by omega)) (zwp_seq (rp_puts 39 hs (by omega) rfl) (fun r hr' => ?_))
      rw [nI_add1]
      refine zwp_mono (rp_primes hr hi hk hd n (j + 1) _ tc _ t _ (by omega) (by omega) hr' (by rw [List.length_append]; simp only [List.length_cons, List.length_nil]; omega)) (fun u hu => ⟨?_, hu.2⟩)
      have h1 := hu.1
      rw [show q.2.1 - j = (q.2.1 - (j + 1)) + 1 by omega, List.replicate_succ]
      rw [List.append_assoc] at h1
      exact h1
theorem rp_prints (hr : zrt mn ms ml mr mw nd) {i : Nat} {q : Nat × Nat × Nat × Nat} (hi : nd[i]? = some q) (hq : znk i q) {oc tc : Int32} {o t : Nat → Int32} {l : List Nat} {W : List (Nat × Nat)} (hs : zro oc o l) (hW : ztk2 tc t W) (hl : l.length + (zrps q).length ≤ 2490) (hWl : W.length + 4 ≤ 1000) :
    zwp (fn_Ref_prints oc tc ms ml mr mw o t (nI i)) (fun r => zro r.1 r.2.2.1 (l ++ zrps q) ∧ ztk2 r.2.1 r.2.2.2 (zrpl q ++ W)) := by
  have hlt := zgetlt hi
  have hcap := hr.2.1
  obtain ⟨l1, l2, l3, l4⟩ := znk_lt hq
  obtain ⟨hmn, -, h1, h2, h3, h4⟩ := hr
  have hin := nI_in2 (c := i) (N := 200) (by omega) (by omega)
  have hzl := zka_lt q.1 (by omega)
  have ee : ∀ m, m < 100 → (nI (zka q.1) = nI m ↔ zka q.1 = m) := fun m hm => nI_inj (by omega) (by omega)
  obtain ⟨v1, v2, v3, v4, v5, v6⟩ := zka_k1 q.1 (by omega)
  have e1 := (ee 1 (by omega)).trans v1
  have e2 := (ee 2 (by omega)).trans v2
  have e3 := (ee 3 (by omega)).trans v3
  unfold fn_Ref_prints
  simp only [nI_clamp (show i < 2 ^ 31 by omega), if_neg hin, h1 i q hi, h2 i q hi, h3 i q hi, h4 i q hi]
  unfold zrps at hl ⊢
  unfold zrpl
  by_cases k1 : q.1 = 1
  · have hd : q.2.1 < 1000000 := by unfold znk at hq; rcases hq with ⟨-, h⟩ | ⟨h, -⟩ | ⟨h, -⟩ | ⟨h, -⟩ | ⟨h, -⟩ <;> omega
    rw [if_neg (by omega : ¬ q.1 = 13), zps_l (Or.inl k1), if_pos k1] at hl ⊢
    rw [if_pos (by omega : q.1 ≤ 2)]
    refine zwp_t (e1.mpr k1) ?_
    unfold zrh; rw [if_pos (by omega)]
    exact zwp_ret (rp_number2 hd hs (by omega)) (fun r hr => ⟨hr, hW⟩)
  refine zwp_f (fun h => k1 (e1.mp h)) ?_
  by_cases k2 : q.1 = 2
  · rw [if_neg (by omega : ¬ q.1 = 13), zps_l (Or.inr k2), if_neg k1] at hl ⊢
    rw [if_pos (by omega : q.1 ≤ 2)]
    refine zwp_t (e2.mpr k2) ?_
    unfold zrh; rw [if_pos (by omega)]
    exact zwp_ret (rp_puts (97 + q.2.1) hs (by omega) (by rw [show (97 : Int32) = nI 97 from rfl, nI_add])) (fun r hr => ⟨hr, hW⟩)
  refine zwp_f (fun h => k2 (e2.mp h)) ?_
  refine zwp_seq (rp_later (1, 41) hW (by omega) rfl) (fun r1 hr1 => ?_)
  have hrr : zrr q = ztg (0, if 7 ≤ q.1 ∧ q.1 ≤ 12 then q.2.2.2 else q.2.2.1) := by
    unfold zrr ztg
    rw [if_pos rfl]
    by_cases hb : 7 ≤ q.1 ∧ q.1 ≤ 12
    · rw [if_pos hb, if_pos hb]
    · rw [if_neg hb, if_neg hb, if_neg (by omega)]
  refine zwp_seq (rp_later (0, if 7 ≤ q.1 ∧ q.1 ≤ 12 then q.2.2.2 else q.2.2.1) hr1 (by simp only [List.length_cons]; omega) hrr) (fun r2 hr2 => ?_)
  by_cases k3 : 3 ≤ q.1 ∧ q.1 ≤ 6
  · have hd : q.2.1 ≤ 3 := by unfold znk at hq; rcases hq with ⟨h, -⟩ | ⟨h, -⟩ | ⟨-, -, h, -⟩ | ⟨h, -⟩ | ⟨h, -⟩ <;> omega
    rw [if_neg (by omega : ¬ q.1 = 13), zps_f k3] at hl ⊢
    rw [if_neg (by omega : ¬ q.1 ≤ 2), if_pos k3.2]
    rw [if_neg (by omega : ¬ (7 ≤ q.1 ∧ q.1 ≤ 12))] at hr2
    refine zwp_t (e3.mpr k3) ?_
    simp only [List.length_append, List.length_replicate, List.length_cons, List.length_nil] at hl
    have hsl := (zsym_len q.1 (by omega)).1 k3
    have hm : ∀ k, k < 7 → 3 ≤ k → ∀ p, p < 4 → nI (k - 3 + 4 * p) - nI (k - 3 + 4 * p) / 4 * 4 = nI (k - 3) := by decide +kernel
    have e0 : zrh q = nI (q.1 - 3 + 4 * q.2.1) := by unfold zrh zwt; rw [if_neg (by omega), if_pos k3]
    rw [e0, hm q.1 (by omega) k3.1 q.2.1 (by omega)]
    refine zwp_seq (rp_name k3 hs (by omega)) (fun r3 hr3 => ?_)
    refine zwp_mono (rp_primes (mn := mn) ⟨hmn, hcap, h1, h2, h3, h4⟩ hi k3 hd zFU 0 _ _ _ _ _ (Nat.zero_le _) (Nat.lt_of_le_of_lt (by omega : q.2.1 - 0 ≤ 3) (by decide)) hr3 (by rw [List.length_append]; omega)) (fun u hu => ⟨?_, ?_⟩)
    · have := hu.1
      rw [Nat.sub_zero, List.append_assoc] at this; exact this
    · rw [hu.2.1, hu.2.2]; exact hr2
  refine zwp_f (fun h => k3 (e3.mp h)) ?_
  obtain ⟨t1, t2⟩ := zsgn_tab q.1 (by omega) (by omega)
  have hput : ∀ (tc' : Int32) (t' : Nat → Int32) (W' : List (Nat × Nat)), ztk2 tc' t' W' → zwp (fn_Ref_prints_b151 ms ml mr mw oc tc' o t') (fun r => zro r.1 r.2.2.1 (l ++ [40]) ∧ ztk2 r.2.1 r.2.2.2 W') := by
    intro tc' t' W' h
    unfold fn_Ref_prints_b151
    exact zwp_ret (rp_puts 40 hs (by omega) rfl) (fun r hr => ⟨hr, h⟩)
  by_cases k13 : q.1 = 13
  · rw [if_pos k13]
    rw [if_neg (by omega : ¬ q.1 ≤ 2), if_neg (by omega : ¬ q.1 ≤ 6), if_pos k13]
    rw [if_neg (by omega : ¬ (7 ≤ q.1 ∧ q.1 ≤ 12))] at hr2
    rw [t1, if_pos k13]
    refine zwp_seq (rp_later (1, 45) hr2 (by simp only [List.length_cons]; omega) rfl) (fun r3 hr3 => ?_)
    refine zwp_t (by unfold zrl; rw [if_neg (by omega)]) (hput _ _ _ hr3)
  · have hb : 7 ≤ q.1 ∧ q.1 ≤ 12 := by omega
    have hll := l1 (by omega)
    rw [if_neg k13, zps_b hb]
    rw [if_neg (by omega : ¬ q.1 ≤ 2), if_neg (by omega : ¬ q.1 ≤ 6), if_neg k13]
    rw [if_pos hb] at hr2
    rw [t1, if_neg k13]
    refine zwp_seq (rp_later (1, (zsym q.1).getD 0 0) hr2 (by simp only [List.length_cons]; omega) rfl) (fun r3 hr3 => ?_)
    have ezl : zrl q = nI q.2.2.1 := by unfold zrl; rw [if_pos hb]
    refine zwp_f (by rw [ezl]; exact nI_ne_neg (by omega) (by decide)) ?_
    refine zwp_seq (rp_later (0, q.2.2.1) hr3 (by simp only [List.length_cons]; omega) (by rw [ezl]; rfl)) (fun r4 hr4 => hput _ _ _ hr4)
end RP
def zc4 (k _d : Nat) : Nat := if k ≤ 2 then 1 else if k ≤ 6 then 2 else 3
theorem zc4_le (k d : Nat) (_ : 1 ≤ k) (_ : k ≤ 13) : zc4 k d ≤ 3 * zc1 k d := by
  unfold zc4 zc1
  rw [if_neg (by omega : ¬ k = 22)]
  repeat' split
  all_goals omega
section RP
variable {mn : Int32} {ms ml mr mw mro : Nat → Int32} {nd : List (Nat × Nat × Nat × Nat)}
def zrp3 (nd : List (Nat × Nat × Nat × Nat)) (x : Nat × Nat) : Nat := if x.1 = 0 then zTt zc4 nd x.2 else 1
theorem zrpo_plan (h : znok nd) {i : Nat} {q : Nat × Nat × Nat × Nat} (hq : nd[i]? = some q) (W : List (Nat × Nat)) : zrps q ++ zcat (zrpo nd) (zrpl q ++ W) = zprt nd i ++ zcat (zrpo nd) W := by
  obtain ⟨l1, l2, l3, l4⟩ := znk_lt (h i q hq)
  have o0 : ∀ a, zrpo nd (0, a) = zprt nd a := fun a => rfl
  have o1 : ∀ a, zrpo nd (1, a) = [a] := fun a => rfl
  rw [zprt_eq h hq]
  unfold zrpl zrps
  by_cases h2 : q.1 ≤ 2
  · rw [if_pos h2, if_neg (by omega : ¬ q.1 = 13), zps_l (by omega), List.nil_append]
    by_cases h1 : q.1 = 1
    · rw [if_pos h1, if_pos h1]
    · rw [if_neg h1, if_neg h1, if_pos (by omega)]
  · rw [if_neg h2, if_neg (by omega : ¬ q.1 = 1), if_neg (by omega : ¬ q.1 = 2)]
    by_cases h6 : q.1 ≤ 6
    · rw [if_pos h6, if_pos h6, if_neg (by omega : ¬ q.1 = 13), zps_f (by omega)]
      simp only [List.cons_append, List.nil_append, zcat, o0, o1, List.append_assoc]
    · rw [if_neg h6, if_neg h6]
      by_cases h13 : q.1 = 13
      · rw [if_pos h13, if_pos h13, if_pos h13]
        simp only [List.cons_append, List.nil_append, zcat, o0, o1, List.append_assoc]
      · rw [if_neg h13, if_neg h13, if_neg h13, zps_b (by omega)]
        have := ((zsgn_tab q.1 (by omega) (by omega)).2 (by omega)).1
        simp only [List.cons_append, List.nil_append, zcat, o0, o1, List.append_assoc]
        rw [this]; rfl
theorem zrpl_steps (h : znok nd) {i : Nat} {q : Nat × Nat × Nat × Nat} (hq : nd[i]? = some q) : zsu (zrp3 nd) (zrpl q) + 1 ≤ zTt zc4 nd i + 1 ∧ zsu (zrp3 nd) (zrpl q) + 1 = zTt zc4 nd i ∧ (∀ x ∈ zrpl q, zrok nd x) := by
  obtain ⟨l1, l2, l3, l4⟩ := znk_lt (h i q hq)
  have hlt := zgetlt hq
  have o0 : ∀ a, zrp3 nd (0, a) = zTt zc4 nd a := fun a => rfl
  have o1 : ∀ a, zrp3 nd (1, a) = 1 := fun a => rfl
  have key : zsu (zrp3 nd) (zrpl q) + 1 = zTt zc4 nd i ∧ (∀ x ∈ zrpl q, zrok nd x) := by
    rw [zTt_eq zc4 h hq]
    unfold zrpl
    rw [show zc4 q.1 q.2.1 = (if q.1 ≤ 2 then 1 else if q.1 ≤ 6 then 2 else 3) from rfl]
    by_cases h2 : q.1 ≤ 2
    · rw [if_pos h2, if_pos h2, if_pos h2, if_neg (by omega)]; exact ⟨rfl, by simp⟩
    · have hll := l1 h2
      rw [if_neg h2, if_neg h2, if_neg h2]
      by_cases h6 : q.1 ≤ 6
      · rw [if_pos h6, if_pos h6, if_neg (by omega)]
        simp only [zsu, o0, o1]
        refine ⟨by omega, ?_⟩
        intro x hx
        simp only [List.mem_cons, List.mem_nil_iff, or_false] at hx
        rcases hx with rfl | rfl
        · exact Or.inl ⟨rfl, by show q.2.2.1 < nd.length; omega⟩
        · exact Or.inr ⟨rfl, by decide, by decide⟩
      · rw [if_neg h6, if_neg h6]
        by_cases h13 : q.1 = 13
        · rw [if_pos h13, if_neg (by omega)]
          simp only [zsu, o0, o1]
          refine ⟨by omega, ?_⟩
          intro x hx
          simp only [List.mem_cons, List.mem_nil_iff, or_false] at hx
          rcases hx with rfl | rfl | rfl
          · exact Or.inr ⟨rfl, by decide, by decide⟩
          · exact Or.inl ⟨rfl, by show q.2.2.1 < nd.length; omega⟩
          · exact Or.inr ⟨rfl, by decide, by decide⟩
        · have hrr := l2 (by omega)
          have ht := ((zsgn_tab q.1 (by omega) (by omega)).2 (by omega)).2
          rw [if_neg h13, if_pos (by omega)]
          simp only [zsu, o0, o1]
          refine ⟨by omega, ?_⟩
          intro x hx
          simp only [List.mem_cons, List.mem_nil_iff, or_false] at hx
          rcases hx with rfl | rfl | rfl | rfl
          · exact Or.inl ⟨rfl, by show q.2.2.1 < nd.length; omega⟩
          · exact Or.inr ⟨rfl, ht⟩
          · exact Or.inl ⟨rfl, by show q.2.2.2 < nd.length; omega⟩
          · exact Or.inr ⟨rfl, by decide, by decide⟩
  exact ⟨by omega, key⟩
theorem zTt4_pos (h : znok nd) {i : Nat} (hi : i < nd.length) : 1 ≤ zTt zc4 nd i := by
  rw [zTt_eq zc4 h (List.getElem?_eq_getElem hi)]
  have : 1 ≤ zc4 nd[i].1 nd[i].2.1 := by unfold zc4; repeat' split
                                         all_goals omega
  omega
theorem zrp3_pos (h : znok nd) {x : Nat × Nat} (hx : zrok nd x) : 1 ≤ zrp3 nd x := by
  unfold zrp3
  rcases hx with ⟨h0, h1⟩ | ⟨h0, -⟩
  · rw [if_pos h0]; exact zTt4_pos h h1
  · rw [if_neg (by omega)]; exact Nat.le_refl _
theorem zsu_len2 (h : znok nd) : ∀ W : List (Nat × Nat), (∀ x ∈ W, zrok nd x) → W.length ≤ zsu (zrp3 nd) W
  | [], _ => Nat.le_refl _
  | x :: W, hW => by
    have h1 := zrp3_pos h (hW x (by simp))
    have h2 := zsu_len2 h W (fun y hy => hW y (by simp [hy]))
    simp only [zsu, List.length_cons]; omega
theorem zprt_ge (h : znok nd) {i : Nat} {q : Nat × Nat × Nat × Nat} (hq : nd[i]? = some q) : (zrps q).length ≤ (zprt nd i).length := by
  have := congrArg List.length (zrpo_plan h hq [])
  simp only [zcat, List.append_nil, List.length_append] at this
  omega
theorem rp_suml (hr : zrt mn ms ml mr mw nd) (hok : znok nd) : ∀ (n : Nat) (W : List (Nat × Nat)) (oc tc : Int32) (o t : Nat → Int32) (l : List Nat),
    zsu (zrp3 nd) W < n → zsu (zrp3 nd) W ≤ 900 → zro oc o l → ztk2 tc t W → (∀ x ∈ W, zrok nd x) → l.length + (zcat (zrpo nd) W).length ≤ 2490 →
    zwp (fn_Ref_printSum_L15 ms ml mr mw mro n oc tc o t) (fun r => zro r.1 r.2.2.1 (l ++ zcat (zrpo nd) W))
  | 0, _, _, _, _, _, _, h, _, _, _, _, _ => absurd h (Nat.not_lt_zero _)
  | n + 1, W, oc, tc, o, t, l, hn, h9, hs, hW, hv, hl => by
    have hcap := hr.2.1
    unfold fn_Ref_printSum_L15 fn_Ref_printSum_b60
    cases W with
    | nil =>
      refine zwp_t (by rw [hW.1]; exact Int32.le_refl _) (zwp_some ?_)
      show zro oc o (l ++ [])
      rw [List.append_nil]; exact hs
    | cons x W =>
      have hx := hv x (by simp)
      have hvt : ∀ y ∈ W, zrok nd y := fun y hy => hv y (by simp [hy])
      have hp := zrp3_pos hok hx
      have hWl := zsu_len2 hok W hvt
      have hn' : zrp3 nd x + zsu (zrp3 nd) W < n + 1 := hn
      have h9' : zrp3 nd x + zsu (zrp3 nd) W ≤ 900 := h9
      have hl' : l.length + (zrpo nd x ++ zcat (zrpo nd) W).length ≤ 2490 := hl
      rw [List.length_append] at hl'
      obtain ⟨hWc, hWs⟩ := hW
      have e1 : tc - 1 = nI W.length := by rw [hWc, List.length_cons, nI_sub1]
      have hWt : ztk2 (nI W.length) t W := ⟨rfl, hWs.2⟩
      refine zwp_f (by rw [hWc, List.length_cons]; exact nI_ge (a := 0) (by omega) (by omega)) ?_
      rw [e1, nI_clamp (by omega : W.length < 2 ^ 31), hWs.1]
      refine zwp_f (nI_in2 (by omega) (by omega)) ?_
      rcases hx with ⟨h0, hx2⟩ | ⟨h0, hx2, hx3⟩
      · have eg : ztg x = nI x.2 := by unfold ztg; rw [if_pos h0]
        have eo : zrpo nd x = zprt nd x.2 := by unfold zrpo; rw [if_pos h0]
        have es : zrp3 nd x = zTt zc4 nd x.2 := by unfold zrp3; rw [if_pos h0]
        rw [eg]
        have hq := List.getElem?_eq_getElem hx2
        obtain ⟨-, s1, s2⟩ := zrpl_steps hok hq
        have hpl := zrpo_plan hok hq W
        have hlen := congrArg List.length hpl
        rw [List.length_append, List.length_append] at hlen
        refine zwp_t (nI_pos' (by omega)) ?_
        refine zwp_seq (rp_prints hr hq (hok _ _ hq) hs hWt (by rw [eo] at hl'; omega) (by omega)) (fun r hr' => ?_)
        refine zwp_mono (rp_suml hr hok n _ _ _ _ _ _ (by rw [zsu_app]; omega) (by rw [zsu_app]; omega) hr'.1 hr'.2 (fun y hy => by
          rcases List.mem_append.mp hy with h | h
          · exact s2 y h
          · exact hvt y h) (by rw [eo] at hl'; rw [List.length_append]; omega)) (fun u hu => ?_)
        rw [List.append_assoc, hpl, ← eo] at hu
        exact hu
      · have eg : ztg x = -(nI x.2) := by unfold ztg; rw [if_neg (by omega)]
        have eo : zrpo nd x = [x.2] := by unfold zrpo; rw [if_neg (by omega)]
        rw [eg, Int32.neg_neg]
        have hneg : ¬ (0 : Int32) ≤ -(nI x.2) := by
          have : ∀ k, k < 128 → 0 < k → ¬ (0 : Int32) ≤ -(nI k) := by decide +kernel
          exact this _ hx3 hx2
        rw [eo] at hl'
        simp only [List.length_cons, List.length_nil] at hl'
        refine zwp_f hneg (zwp_seq (rp_puts x.2 hs (by omega) rfl) (fun r hr' => ?_))
        refine zwp_mono (rp_suml hr hok n W _ _ _ _ _ (by omega) (by omega) hr' hWt hvt (by rw [List.length_append]; simp only [List.length_cons, List.length_nil]; omega)) (fun u hu => ?_)
        rw [List.append_assoc, ← eo] at hu
        exact hu
/-- a sum, printed by the reference -/
theorem rp_printSum {S : List (Nat × Nat)} (hr : zrt mn ms ml mr mw nd) (hok : znok nd) (hS : S.length ≤ 9) (hro : zrw mro (fun q => nI q.2) S) {i : Nat} {q : Nat × Nat} (hi : S[i]? = some q) (hq : q.2 < nd.length) (h1 : zTt zc1 nd q.2 ≤ 160) {oc tc : Int32} {o t : Nat → Int32} {l : List Nat} (hs : zro oc o l) (hl : l.length + (zprt nd q.2).length ≤ 2490) :
    zwp (fn_Ref_printSum oc tc ms ml mr mw mro o t (nI i)) (fun r => zro r.1 r.2.2.1 (l ++ zprt nd q.2)) := by
  have hlt := zgetlt hi
  have h3 := zT_le zc4 zc1 3 zc4_le hok (q.2 + 1) q.2 (by omega) hq
  unfold fn_Ref_printSum
  rw [nI_clamp (by omega : i < 2 ^ 31), hro i q hi]
  refine zwp_f (nI_in2 (by omega) (by omega)) ?_
  refine zwp_seq (rp_later (W := []) (0, q.2) ⟨rfl, True.intro⟩ (by decide) rfl) (fun r hr' => ?_)
  have e1 : zsu (zrp3 nd) [(0, q.2)] = zTt zc4 nd q.2 := Nat.add_zero _
  have e2 : zcat (zrpo nd) [(0, q.2)] = zprt nd q.2 := List.append_nil _
  have := rp_suml (mro := mro) hr hok zFU [(0, q.2)] oc _ o _ l (by rw [e1]; exact Nat.lt_of_le_of_lt (by omega : _ ≤ 480) (by decide)) (by rw [e1]; omega) hs hr' (by intro x hx; rw [List.mem_singleton] at hx; subst hx; exact Or.inl ⟨rfl, hq⟩) (by rw [e2]; exact hl)
  rw [e2] at this
  exact this
end RP
theorem zpos_next : ∀ (R : List Nat) (n k : Nat), R[n]? = some k → zpos R (n + 1) = zpos R n + (if k = 20 then 2 else 1)
  | [], n, k, h => by simp at h
  | a :: R, 0, k, h => by
    simp at h; subst h
    show (if a = 20 then 2 else 1) + zpos R 0 = 0 + _
    have : zpos R 0 = 0 := by cases R <;> rfl
    omega
  | a :: R, n + 1, k, h => by
    have h' : R[n]? = some k := by simpa using h
    show (if a = 20 then 2 else 1) + zpos R (n + 1) = ((if a = 20 then 2 else 1) + zpos R n) + _
    rw [zpos_next R n k h']; omega
theorem zpos_end : ∀ (m : Nat) (J : List Nat), J.length ≤ m → zlk J → zpos (zR J) (zR J).length = J.length
  | _, [], _, _ => rfl
  | 0, _ :: _, h, _ => by simp at h
  | m + 1, a :: J, hm, hJ => by
    rcases (zlk_cons _ _).mp hJ with ⟨h1, h2, h3⟩ | ⟨h1, J', h2, h3⟩
    · rw [zR_1 ⟨h1, by omega⟩]
      show (if a = 20 then 2 else 1) + zpos (zR J) (zR J).length = J.length + 1
      rw [if_neg (by omega), zpos_end m J (by simpa using hm) h3]; omega
    · subst h1; subst h2
      rw [zR_1 (by omega), zR_21]
      show (if 20 = 20 then 2 else 1) + zpos (zR J') (zR J').length = J'.length + 2
      rw [if_pos rfl, zpos_end m J' (by simp at hm; omega) h3]; omega
section RQ
variable {mn : Int32} {ms ml mr mw mro mre : Nat → Int32} {nd : List (Nat × Nat × Nat × Nat)} {S : List (Nat × Nat)} {J : List Nat}
theorem rp_sign {k : Nat} (hk : 14 ≤ k ∧ k ≤ 20) {c : Int32} {f : Nat → Int32} {l : List Nat} (hs : zro c f l) (hl : l.length + 2 ≤ 2500) : zwp (fn_Ref_relationSign c f (nI (zka k))) (fun r => zro r.1 r.2 (l ++ zsym k)) := by
  have h1 : ∀ a : Nat, zwp ((fn_Ref_puts c f (nI a)).bind fun q => some (q.1, q.2)) (fun r => zro r.1 r.2 (l ++ [a])) := fun a => zwp_ret (rp_puts a hs (by omega) rfl) (fun r hr => hr)
  have h2 : ∀ a b : Nat, zwp ((fn_Ref_puts c f (nI a)).bind fun q => (fn_Ref_puts q.1 q.2 (nI b)).bind fun q' => some (q'.1, q'.2)) (fun r => zro r.1 r.2 (l ++ [a, b])) := by
    intro a b
    refine zwp_seq (rp_puts a hs (by omega) rfl) (fun r1 hr1 => ?_)
    refine zwp_ret (rp_puts b hr1 (by rw [List.length_append]; simp only [List.length_cons, List.length_nil]; omega) rfl) (fun r hr => ?_)
    rw [List.append_assoc] at hr; exact hr
  have hz : zsym 14 = [61] ∧ zsym 15 = [60] ∧ zsym 16 = [62] ∧ zsym 17 = [60, 61] ∧ zsym 18 = [62, 61] ∧ zsym 19 = [33, 61] ∧ zsym 20 = [58] := by decide +kernel
  obtain ⟨z14, z15, z16, z17, z18, z19, z20⟩ := hz
  have hk' : k = 14 ∨ k = 15 ∨ k = 16 ∨ k = 17 ∨ k = 18 ∨ k = 19 ∨ k = 20 := by omega
  rcases hk' with rfl | rfl | rfl | rfl | rfl | rfl | rfl
  · rw [z14]; exact h1 61
  · rw [z15]; exact h1 60
  · rw [z16]; exact h1 62
  · rw [z17]; exact h2 60 61
  · rw [z18]; exact h2 62 61
  · rw [z19]; exact h2 33 61
  · rw [z20]; exact h1 58
theorem zsym21 : zsym 21 = [46, 46] := by decide +kernel
theorem rp_prl (mk ma mod' moo' mof : Nat → Int32) (tk : Int32) (hr : zrt mn ms ml mr mw nd) (hok : znok nd) (hJ : S.map (fun q => q.1) = 0 :: J) (hlk : zlk J) (h9 : S.length ≤ 9) (h4 : (zR J).length ≤ 4) (hro : zrw mro (fun q => nI q.2) S) (hre : zrw mre (fun k => nI (zka k)) (zR J)) (hrt : ∀ q ∈ S, q.2 < nd.length) (h1 : ∀ q ∈ S, zTt zc1 nd q.2 ≤ 160) (a2 a4 a5 : Int32) : ∀ (n i : Nat) (oc tc : Int32) (o t : Nat → Int32) (l : List Nat),
    i ≤ (zR J).length → (zR J).length - i < n → zro oc o l → l.length + (zprall nd (S.drop (zpos (zR J) i + 1))).length ≤ 2480 →
    zwp (fn_Ref_print_L19 tk mk ma n mn a2 (nI (zR J).length) a4 a5 oc tc ms ml mr mw mro mre mod' moo' mof o t (nI (zpos (zR J) i + 1)) (nI i)) (fun r => r.1 = mn ∧ zro r.2.2.2.2.2.1 r.2.2.2.2.2.2.2.2.2.2.2.2.2.2.2.2.1 (l ++ zprall nd (S.drop (zpos (zR J) i + 1))))
  | 0, _, _, _, _, _, _, _, h, _, _ => absurd h (Nat.not_lt_zero _)
  | n + 1, i, oc, tc, o, t, l, hi, hn, hs, hl => by
    have hlen : J.length + 1 = S.length := by rw [← List.length_map (f := fun q : Nat × Nat => q.1), hJ]; rfl
    unfold fn_Ref_print_L19 fn_Ref_print_b76
    by_cases he : i = (zR J).length
    · refine zwp_t (nI_le (by omega) (by omega)) (zwp_some ⟨rfl, ?_⟩)
      rw [he, zpos_end J.length J (Nat.le_refl _) hlk, List.drop_eq_nil_of_le (by omega)]
      show zro oc o (l ++ [])
      rw [List.append_nil]; exact hs
    · have hlt : i < (zR J).length := by omega
      have hk := List.getElem?_eq_getElem hlt
      obtain ⟨p1, p2, p3, p4⟩ := zpos_at J.length J (Nat.le_refl _) hlk i _ hk
      have hnx := zpos_next (zR J) i _ hk
      generalize (zR J)[i] = k at *
      have hslt := zgetlt p1
      have hqlt : zpos (zR J) i + 1 < S.length := by omega
      have hq := List.getElem?_eq_getElem hqlt
      have hq1 : S[zpos (zR J) i + 1].1 = k := by
        have := zsj hJ hq
        rw [List.getElem?_cons_succ, p1] at this
        exact (Option.some.inj this).symm
      have hm : S[zpos (zR J) i + 1] ∈ S := List.getElem_mem hqlt
      have hd : S.drop (zpos (zR J) i + 1) = S[zpos (zR J) i + 1] :: S.drop (zpos (zR J) i + 1 + 1) := List.drop_eq_getElem_cons hqlt
      have hP : zprall nd (S.drop (zpos (zR J) i + 1)) = zsym k ++ (zprt nd S[zpos (zR J) i + 1].2 ++ zprall nd (S.drop (zpos (zR J) i + 1 + 1))) := by
        rw [hd]
        show (if S[zpos (zR J) i + 1].1 = 0 then [] else zsym S[zpos (zR J) i + 1].1) ++ _ = _
        rw [hq1, if_neg (by omega)]
      rw [hP] at hl ⊢
      rw [List.length_append, List.length_append] at hl
      generalize zpos (zR J) i = s at *
      have hin := nI_in2 (c := i) (N := 4) (by omega) (by omega)
      refine zwp_f (nI_ge hlt (by omega)) ?_
      rw [nI_clamp (by omega : i < 2 ^ 31), hre i k hk]
      refine zwp_f hin ?_
      refine zwp_seq (rp_sign ⟨p3, p4⟩ hs (by omega)) (fun r1 hr1 => ?_)
      refine zwp_seq (rp_printSum hr hok h9 hro hq (hrt _ hm) (h1 _ hm) hr1 (by rw [List.length_append]; omega)) (fun r2 hr2 => ?_)
      refine zwp_f hin ?_
      have hz18 : nI (zka k) = 18 ↔ k = 20 := by
        have : ∀ k, k < 25 → 14 ≤ k → (nI (zka k) = 18 ↔ k = 20) := by decide
        exact this k (by omega) p3
      by_cases h20 : k = 20
      · rw [if_pos h20] at hnx
        have h21 := p2 h20
        have hq2lt : s + 1 + 1 < S.length := by have := zgetlt h21; omega
        have hq2 := List.getElem?_eq_getElem hq2lt
        have hq21 : S[s + 1 + 1].1 = 21 := by
          have := zsj hJ hq2
          rw [List.getElem?_cons_succ, h21] at this
          exact (Option.some.inj this).symm
        have hm2 : S[s + 1 + 1] ∈ S := List.getElem_mem hq2lt
        have hd2 : S.drop (s + 1 + 1) = S[s + 1 + 1] :: S.drop (s + 1 + 1 + 1) := List.drop_eq_getElem_cons hq2lt
        have hP2 : zprall nd (S.drop (s + 1 + 1)) = [46, 46] ++ (zprt nd S[s + 1 + 1].2 ++ zprall nd (S.drop (s + 1 + 1 + 1))) := by
          rw [hd2]
          show (if S[s + 1 + 1].1 = 0 then [] else zsym S[s + 1 + 1].1) ++ _ = _
          rw [hq21, if_neg (by omega), zsym21]
        rw [hP2] at hl ⊢
        rw [List.length_append, List.length_append] at hl
        simp only [List.length_cons, List.length_nil] at hl
        have l2 : (l ++ zsym k ++ zprt nd S[s + 1].2).length = l.length + (zsym k).length + (zprt nd S[s + 1].2).length := by rw [List.length_append, List.length_append]
        refine zwp_t (hz18.mpr h20) ?_
        refine zwp_seq (rp_puts 46 hr2 (by omega) rfl) (fun r3 hr3 => ?_)
        refine zwp_seq (rp_puts 46 hr3 (by rw [List.length_append]; simp only [List.length_cons, List.length_nil]; omega) rfl) (fun r4 hr4 => ?_)
        rw [nI_add1]
        refine zwp_seq (rp_printSum hr hok h9 hro hq2 (hrt _ hm2) (h1 _ hm2) hr4 (by rw [List.length_append, List.length_append]; simp only [List.length_cons, List.length_nil]; omega)) (fun r5 hr5 => ?_)
        rw [nI_add1, nI_add1]
        have := rp_prl mk ma mod' moo' mof tk hr hok hJ hlk h9 h4 hro hre hrt h1 a2 a4 a5 n (i + 1) _ r5.2.1 _ r5.2.2.2 _ (by omega) (by omega) hr5 (by rw [hnx, show s + 2 + 1 = s + 1 + 1 + 1 from rfl]; rw [List.length_append, List.length_append, List.length_append, l2]; simp only [List.length_cons, List.length_nil]; omega)
        rw [hnx, show s + 2 + 1 = s + 1 + 1 + 1 from rfl] at this
        refine zwp_mono this (fun u hu => ⟨hu.1, ?_⟩)
        have h7 := hu.2
        simp only [List.append_assoc] at h7 ⊢
        exact h7
      · rw [if_neg h20] at hnx
        refine zwp_f (fun h => h20 (hz18.mp h)) ?_
        rw [nI_add1, nI_add1]
        have := rp_prl mk ma mod' moo' mof tk hr hok hJ hlk h9 h4 hro hre hrt h1 a2 a4 a5 n (i + 1) _ r2.2.1 _ r2.2.2.2 _ (by omega) (by omega) hr2 (by rw [hnx]; rw [List.length_append, List.length_append]; omega)
        rw [hnx] at this
        refine zwp_mono this (fun u hu => ⟨hu.1, ?_⟩)
        have h7 := hu.2
        simp only [List.append_assoc] at h7 ⊢
        exact h7
end RQ
