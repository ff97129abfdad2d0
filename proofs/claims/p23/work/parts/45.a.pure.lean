/-! The pure layer: what holds of the models, words of its own. -/
def zwp {α : Type} (x : Option α) (P : α → Prop) : Prop := ∃ r, x = some r ∧ P r
theorem zwp_some {α : Type} {a : α} {P : α → Prop} (h : P a) : zwp (some a) P := ⟨a, rfl, h⟩
theorem zwp_seq {α β : Type} {x : Option α} {f : α → Option β} {Q : α → Prop} {P : β → Prop} (hx : zwp x Q) (h : ∀ a, Q a → zwp (f a) P) : zwp (x.bind f) P := by
  obtain ⟨r, rfl, hr⟩ := hx
  exact h r hr
theorem zwp_mono {α : Type} {x : Option α} {Q P : α → Prop} (hx : zwp x Q) (h : ∀ a, Q a → P a) : zwp x P := by
  obtain ⟨r, e, hr⟩ := hx
  exact ⟨r, e, h r hr⟩
theorem zwp_eq {α : Type} {x : Option α} {a : α} {P : α → Prop} (e : x = some a) (h : P a) : zwp x P := ⟨a, e, h⟩
theorem zwp_ret {α β : Type} {x : Option α} {g : α → β} {Q : α → Prop} {P : β → Prop} (hx : zwp x Q) (h : ∀ a, Q a → P (g a)) : zwp (x.bind fun q => some (g q)) P :=
  zwp_seq hx fun a ha => zwp_some (h a ha)
theorem zwp_t {α : Type} {c : Prop} [Decidable c] {a b : Option α} {P : α → Prop} (hc : c) (h : zwp a P) : zwp (if c then a else b) P := by rw [if_pos hc]; exact h
theorem zwp_f {α : Type} {c : Prop} [Decidable c] {a b : Option α} {P : α → Prop} (hc : ¬ c) (h : zwp b P) : zwp (if c then a else b) P := by rw [if_neg hc]; exact h
theorem zwp_ite {α : Type} {c : Prop} [Decidable c] {a b : Option α} {P : α → Prop} (h1 : c → zwp a P) (h2 : ¬ c → zwp b P) : zwp (if c then a else b) P := by
  by_cases h : c
  · exact zwp_t h (h1 h)
  · exact zwp_f h (h2 h)
theorem zbind_some {α β : Type} {x : Option α} {a : α} {f : α → Option β} (h : x = some a) : x.bind f = f a := by rw [h]; rfl
/-! numbers -/
theorem nI_inj {a b : Nat} (ha : a < 2 ^ 31) (hb : b < 2 ^ 31) : nI a = nI b ↔ a = b := by
  constructor
  · intro h
    have h1 := nI_toInt ha
    have h2 := nI_toInt hb
    rw [h, h2] at h1
    omega
  · intro h; rw [h]
theorem nI_lei {a b : Nat} (ha : a < 2 ^ 31) (hb : b < 2 ^ 31) : nI a ≤ nI b ↔ a ≤ b := by
  rw [Int32.le_iff_toInt_le, nI_toInt ha, nI_toInt hb]; omega
theorem nI_lti {a b : Nat} (ha : a < 2 ^ 31) (hb : b < 2 ^ 31) : nI a < nI b ↔ a < b := by
  rw [Int32.lt_iff_toInt_lt, nI_toInt ha, nI_toInt hb]; omega
theorem nI_add1 (n : Nat) : nI n + 1 = nI (n + 1) := (nI_succ n).symm
theorem nI_mulz (a b : Nat) : nI a * nI b = nI (a * b) := (Int32.ofNat_mul a b).symm
theorem nI_sub1 (n : Nat) : nI (n + 1) - 1 = nI n := by
  rw [nI_succ]; exact Int32.add_sub_cancel _ _
theorem nI_sub {a b : Nat} (h : b ≤ a) : nI a - nI b = nI (a - b) := by
  have : nI a = nI (a - b) + nI b := by rw [show nI (a - b) + nI b = nI (a - b + b) from (Int32.ofNat_add _ _).symm]; congr 1; omega
  rw [this]; exact Int32.add_sub_cancel _ _
theorem nI_ne_neg {n : Nat} (h : n < 2 ^ 31) {x : Int32} (hx : x < 0) : ¬ nI n = x := by
  intro e; exact nI_pos h (e ▸ hx)
theorem nI_out {c N : Nat} (hc : c < 2 ^ 31) (h : N ≤ c) : (nI c < 0 ∨ N ≤ (nI c).toNatClampNeg) := Or.inr (by rw [nI_clamp hc]; exact h)
/-! rows -/
theorem upd_at {f : Nat → Int32} {k : Nat} {x : Int32} : upd f k x k = x := if_pos rfl
theorem upd_ne {f : Nat → Int32} {k j : Nat} {x : Int32} (h : j ≠ k) : upd f k x j = f j := if_neg h
/-- a row that holds a list's members -/
def zrw {α : Type} (f : Nat → Int32) (g : α → Int32) (l : List α) : Prop := ∀ (j : Nat) (a : α), l[j]? = some a → f j = g a
theorem zrw_nil {α : Type} {f : Nat → Int32} {g : α → Int32} : zrw f g [] := fun j a h => by simp at h
theorem zrw_push {α : Type} {f : Nat → Int32} {g : α → Int32} {l : List α} {a : α} {x : Int32} (h : zrw f g l) (hx : x = g a) : zrw (upd f l.length x) g (l ++ [a]) := by
  intro j b hj
  rw [List.getElem?_append] at hj
  split at hj
  · rename_i hlt
    rw [upd_ne (by omega)]; exact h j b hj
  · rename_i hge
    have h2 : j = l.length := by
      rcases Nat.lt_or_ge (j - l.length) 1 with h3 | h3
      · omega
      · rw [List.getElem?_eq_none (by simpa using h3)] at hj; cases hj
    subst h2
    simp at hj
    subst hj
    rw [upd_at]; exact hx
/-- a stack, its top first -/
def zst {α : Type} (g : α → Int32) (f : Nat → Int32) : List α → Prop
  | [] => True
  | x :: t => f t.length = g x ∧ zst g f t
theorem zst_upd {α : Type} {g : α → Int32} {f : Nat → Int32} {x : Int32} : ∀ (l : List α) {n : Nat}, l.length ≤ n → zst g f l → zst g (upd f n x) l
  | [], _, _, _ => True.intro
  | a :: t, n, h, hf => ⟨by rw [upd_ne (by simp at h; omega)]; exact hf.1, zst_upd t (by simp at h; omega) hf.2⟩
theorem zst_push {α : Type} {g : α → Int32} {f : Nat → Int32} {a : α} {x : Int32} {l : List α} (h : zst g f l) (hx : x = g a) : zst g (upd f l.length x) (a :: l) := ⟨upd_at.trans hx, zst_upd l (Nat.le_refl _) h⟩
/-! IntStack -/
/-- a stack object of room N -/
def zstk {α : Type} (g : α → Int32) (N : Nat) (c : Int32) (f : Nat → Int32) (l : List α) : Prop := c = nI l.length ∧ l.length ≤ N ∧ zst g f l
theorem zstk_nil {α : Type} {g : α → Int32} {N : Nat} {f : Nat → Int32} : zstk g N 0 f [] := ⟨rfl, Nat.zero_le _, True.intro⟩
theorem sp_push {α : Type} {g : α → Int32} {N : Nat} {c : Int32} {f : Nat → Int32} {l : List α} {x : Int32} (a : α) (hN : N < 2 ^ 31) (h : zstk g N c f l) (hl : l.length < N) (hx : x = g a) :
    zwp (fn_IntStack_push N c f x) (fun r => zstk g N r.1 r.2 (a :: l)) := by
  obtain ⟨rfl, h1, h2⟩ := h
  unfold fn_IntStack_push
  refine zwp_f (nI_ge hl hN) (zwp_f (nI_in hl hN) (zwp_some ⟨?_, hl, ?_⟩))
  · rw [nI_add1]; rfl
  · rw [nI_clamp (by omega)]; exact zst_push h2 hx
theorem sp_pop {α : Type} {g : α → Int32} {N : Nat} {c : Int32} {f : Nat → Int32} {l : List α} {x : α} (hN : N < 2 ^ 31) (h : zstk g N c f (x :: l)) :
    fn_IntStack_pop N c f = some (g x, nI l.length) := by
  obtain ⟨rfl, h1, h2⟩ := h
  unfold fn_IntStack_pop
  simp only [List.length_cons] at h1 ⊢
  rw [if_neg (nI_ne0 (by omega) (by omega)), nI_sub1, if_neg (nI_in (by omega) hN), nI_clamp (by omega), h2.1]
theorem zstk_tail {α : Type} {g : α → Int32} {N : Nat} {c : Int32} {f : Nat → Int32} {l : List α} {x : α} (h : zstk g N c f (x :: l)) : zstk g N (nI l.length) f l :=
  ⟨rfl, Nat.le_of_succ_le h.2.1, h.2.2.2⟩
theorem sp_top {α : Type} {g : α → Int32} {N : Nat} {c : Int32} {f : Nat → Int32} {l : List α} {x : α} (hN : N < 2 ^ 31) (h : zstk g N c f (x :: l)) :
    fn_IntStack_top N c f = some (g x) := by
  obtain ⟨rfl, h1, h2⟩ := h
  unfold fn_IntStack_top
  simp only [List.length_cons] at h1 ⊢
  rw [if_neg (show ¬ nI (l.length + 1) ≤ 0 from nI_ge (a := 0) (by omega) (by omega)), nI_sub1, if_neg (nI_in (by omega) hN), nI_clamp (by omega), h2.1]
/-! CharRow -/
/-- a row of characters of room N that holds l -/
def zstr (N : Nat) (c : Int32) (f : Nat → Int32) (l : List Nat) : Prop := c = nI l.length ∧ l.length ≤ N ∧ zrw f nI l
theorem zstr_nil {N : Nat} {f : Nat → Int32} : zstr N 0 f [] := ⟨rfl, Nat.zero_le _, zrw_nil⟩
theorem zchar : ∀ c, c < 128 → vp_nar .char ((nI c).toUInt32 % 65536).toInt32 = nI c := by decide +kernel
theorem sp_put {N : Nat} {c : Int32} {f : Nat → Int32} {l : List Nat} {x : Nat} (hN : N < 2 ^ 31) (h : zstr N c f l) (hl : l.length < N) (hx : x < 128) :
    zwp (fn_CharRow_put N c f (nI x)) (fun r => zstr N r.1 r.2 (l ++ [x])) := by
  obtain ⟨rfl, h1, h2⟩ := h
  unfold fn_CharRow_put
  refine zwp_f (nI_ge hl hN) (zwp_f (nI_in hl hN) (zwp_some ⟨?_, by rw [List.length_append]; exact hl, ?_⟩))
  · rw [nI_add1, List.length_append]; rfl
  · rw [nI_clamp (by omega)]; exact zrw_push h2 (zchar x hx)
theorem sp_at {N : Nat} {c : Int32} {f : Nat → Int32} {l : List Nat} (hN : N < 2 ^ 31) (h : zstr N c f l) (i : Nat) (hi : i < 2 ^ 31) :
    fn_CharRow_at N c f (nI i) = some (if i < l.length then nI (l.getD i 0) else -3) := by
  obtain ⟨rfl, h1, h2⟩ := h
  unfold fn_CharRow_at
  rw [if_neg (nI_pos hi)]
  by_cases hlt : i < l.length
  · rw [if_neg (nI_ge hlt (by omega)), if_neg (nI_in (by omega) hN), nI_clamp hi, h2 i l[i] (List.getElem?_eq_getElem hlt), if_pos hlt]
    simp [List.getD, List.getElem?_eq_getElem hlt]
  · rw [if_pos (nI_le (by omega) hi), if_neg hlt]
theorem zrw_get {α : Type} {f : Nat → Int32} {g : α → Int32} {l : List α} (h : zrw f g l) {j : Nat} (hj : j < l.length) : f j = g l[j] := h j _ (List.getElem?_eq_getElem hj)
theorem zrw_getD {f : Nat → Int32} {l : List Nat} (h : zrw f nI l) {j : Nat} (hj : j < l.length) : f j = nI (l.getD j 0) := by
  rw [zrw_get h hj]; simp [List.getD, List.getElem?_eq_getElem hj]
/-! Texts and their tokens. -/
/-- a text: what both keep -/
def ztx (tx : List Nat) : Prop := tx.length ≤ 80 ∧ ∀ c ∈ tx, 32 ≤ c ∧ c < 127
def zdg (c : Nat) : Bool := decide (48 ≤ c) && decide (c ≤ 57)
def zrun : List Nat → Nat
  | [] => 0
  | c :: t => if zdg c = true then zrun t + 1 else 0
/-- a number's value out of its first six digits, n of them read -/
def zval : Nat → Nat → List Nat → Nat
  | _, a, [] => a
  | n, a, c :: t => if zdg c = true then (if n < 6 then zval (n + 1) (10 * a + (c - 48)) t else zval (n + 1) a t) else a
def zfun (s : List Nat) : Nat := if s.take 3 = [97, 98, 115] then 3 else if s.take 3 = [115, 103, 110] then 4 else if s.take 3 = [115, 113, 114] then 5 else if s.take 3 = [100, 98, 108] then 6 else 0
def zpair (a b : Nat) : Nat := (fn_Tokens_kindOfPair (nI a) (nI b)).toNatClampNeg
def zsign (a : Nat) : Nat := (fn_Tokens_kindOfSign (nI a)).toNatClampNeg
/-- the first token of a suffix that starts with no space: kind, detail, width -/
def ztok : List Nat → Nat × Nat × Nat
  | [] => (0, 0, 1)
  | c :: t => if zdg c = true then (if 6 < zrun (c :: t) then 0 else 1, zval 0 0 (c :: t), zrun (c :: t))
    else if 97 ≤ c ∧ c ≤ 122 then (if zfun (c :: t) = 0 then (2, c - 97, 1) else (zfun (c :: t), 0, 3))
    else if zpair c (t.getD 0 0) = 0 then (zsign c, 0, 1) else (zpair c (t.getD 0 0), 0, 2)
/-- tokens of a suffix at place p: kind, detail, start -/
def ztoks : Nat → Nat → List Nat → List (Nat × Nat × Nat)
  | 0, _, _ => []
  | _ + 1, _, [] => []
  | f + 1, p, c :: t => if c = 32 then ztoks f (p + 1) t else
      ((ztok (c :: t)).1, (ztok (c :: t)).2.1, p) :: ztoks f (p + (ztok (c :: t)).2.2) ((c :: t).drop (ztok (c :: t)).2.2)
theorem zrun_le : ∀ s : List Nat, zrun s ≤ s.length
  | [] => Nat.le_refl _
  | c :: t => by
    unfold zrun
    split
    · simpa using zrun_le t
    · exact Nat.zero_le _
theorem zpair0 : ∀ a, a < 127 → zpair a 0 = 0 := by decide +kernel
theorem zpair_ok : ∀ a, a < 127 → ∀ b, b < 127 → fn_Tokens_kindOfPair (nI a) (nI b) = nI (zpair a b) ∧ zpair a b < 25 := by decide +kernel
theorem zpair_m : ∀ a, a < 127 → fn_Tokens_kindOfPair (nI a) (-3) = nI (zpair a 0) := by decide +kernel
theorem zsign_ok : ∀ a, a < 127 → fn_Tokens_kindOfSign (nI a) = nI (zsign a) ∧ zsign a < 25 := by decide +kernel
theorem zfun_lt (s : List Nat) : zfun s < 7 ∧ (zfun s ≠ 0 → 3 ≤ zfun s ∧ 3 ≤ s.length) := by
  have h : ∀ l : List Nat, l.length = 3 → s.take 3 = l → 3 ≤ s.length := by
    intro l hl h
    have := congrArg List.length h
    rw [List.length_take, hl] at this
    omega
  unfold zfun
  split
  · rename_i h1; exact ⟨by omega, fun _ => ⟨by omega, h _ rfl h1⟩⟩
  · split
    · rename_i h1; exact ⟨by omega, fun _ => ⟨by omega, h _ rfl h1⟩⟩
    · split
      · rename_i h1; exact ⟨by omega, fun _ => ⟨by omega, h _ rfl h1⟩⟩
      · split
        · rename_i h1; exact ⟨by omega, fun _ => ⟨by omega, h _ rfl h1⟩⟩
        · exact ⟨by omega, fun h => absurd rfl h⟩
theorem ztok_d {c : Nat} {t : List Nat} (h : zdg c = true) : ztok (c :: t) = (if 6 < zrun (c :: t) then 0 else 1, zval 0 0 (c :: t), zrun (c :: t)) := if_pos h
theorem ztok_f {c : Nat} {t : List Nat} (h : ¬ zdg c = true) (h1 : 97 ≤ c ∧ c ≤ 122) (h2 : ¬ zfun (c :: t) = 0) : ztok (c :: t) = (zfun (c :: t), 0, 3) := by
  unfold ztok; simp only []; rw [if_neg h, if_pos h1, if_neg h2]
theorem ztok_v {c : Nat} {t : List Nat} (h : ¬ zdg c = true) (h1 : 97 ≤ c ∧ c ≤ 122) (h2 : zfun (c :: t) = 0) : ztok (c :: t) = (2, c - 97, 1) := by
  unfold ztok; simp only []; rw [if_neg h, if_pos h1, if_pos h2]
theorem ztok_s {c : Nat} {t : List Nat} (h : ¬ zdg c = true) (h1 : ¬ (97 ≤ c ∧ c ≤ 122)) (h2 : zpair c (t.getD 0 0) = 0) : ztok (c :: t) = (zsign c, 0, 1) := by
  unfold ztok; simp only []; rw [if_neg h, if_neg h1, if_pos h2]
theorem ztok_p {c : Nat} {t : List Nat} (h : ¬ zdg c = true) (h1 : ¬ (97 ≤ c ∧ c ≤ 122)) (h2 : ¬ zpair c (t.getD 0 0) = 0) : ztok (c :: t) = (zpair c (t.getD 0 0), 0, 2) := by
  unfold ztok; simp only []; rw [if_neg h, if_neg h1, if_neg h2]
theorem ztok_w {c : Nat} {t : List Nat} (h : c < 127) : 1 ≤ (ztok (c :: t)).2.2 ∧ (ztok (c :: t)).2.2 ≤ (c :: t).length := by
  by_cases h0 : zdg c = true
  · rw [ztok_d h0]
    refine ⟨?_, zrun_le _⟩
    show 1 ≤ zrun (c :: t)
    unfold zrun; rw [if_pos h0]; omega
  · by_cases h1 : 97 ≤ c ∧ c ≤ 122
    · by_cases h2 : zfun (c :: t) = 0
      · rw [ztok_v h0 h1 h2]; exact ⟨Nat.le_refl _, by simp⟩
      · rw [ztok_f h0 h1 h2]; exact ⟨by show 1 ≤ 3; omega, ((zfun_lt _).2 h2).2⟩
    · by_cases h2 : zpair c (t.getD 0 0) = 0
      · rw [ztok_s h0 h1 h2]; exact ⟨Nat.le_refl _, by simp⟩
      · rw [ztok_p h0 h1 h2]
        refine ⟨by show 1 ≤ 2; omega, ?_⟩
        cases t with
        | nil => exact absurd (zpair0 c h) h2
        | cons => simp
/-! the class's side -/
/-- the class's tokens hold l -/
def zqs (c : Int32) (k s d : Nat → Int32) (l : List (Nat × Nat × Nat)) : Prop :=
  c = nI l.length ∧ zrw k (fun q => nI q.1) l ∧ zrw d (fun q => nI q.2.1) l ∧ zrw s (fun q => nI q.2.2) l
theorem sp_add {c : Int32} {k s d : Nat → Int32} {l : List (Nat × Nat × Nat)} (h : zqs c k s d l) (hl : l.length < 80) (a b e : Nat) (w : Int32) :
    zwp (fn_Tokens_add c k s d (nI a) (nI b) (nI e) w) (fun r => r.1 = w ∧ zqs r.2.1 r.2.2.1 r.2.2.2.1 r.2.2.2.2 (l ++ [(a, e, b)])) := by
  obtain ⟨rfl, h1, h2, h3⟩ := h
  unfold fn_Tokens_add
  refine zwp_f (nI_ge (b := 80) hl (by omega)) (zwp_f (nI_in hl (by omega)) (zwp_f (nI_in hl (by omega)) (zwp_f (nI_in hl (by omega)) (zwp_some ⟨rfl, ?_, ?_, ?_, ?_⟩))))
  · rw [nI_add1, List.length_append]; rfl
  · rw [nI_clamp (by omega)]; exact zrw_push h1 rfl
  · rw [nI_clamp (by omega)]; exact zrw_push h2 rfl
  · rw [nI_clamp (by omega)]; exact zrw_push h3 rfl
theorem nI_ltl {c k : Nat} (hc : c < 2 ^ 31) (hk : k < 2 ^ 31) : (nI c < nI k) = (c < k) := propext (nI_lti hc hk)
theorem getD_drop {l : List Nat} {p i d : Nat} : (l.drop p).getD i d = l.getD (p + i) d := by
  simp [List.getD, List.getElem?_drop]
theorem drop_cons {l : List Nat} {p c : Nat} {t : List Nat} (h : l.drop p = c :: t) : p < l.length ∧ l.getD p 0 = c ∧ l.drop (p + 1) = t := by
  have h1 : p < l.length := by
    rcases Nat.lt_or_ge p l.length with h1 | h1
    · exact h1
    · rw [List.drop_eq_nil_of_le h1] at h; cases h
  refine ⟨h1, ?_, ?_⟩
  · have := congrArg (fun l => l.getD 0 0) h
    simpa [List.getD] using this
  · rw [← List.drop_drop, h]; rfl
theorem drop_nil {l : List Nat} {p : Nat} (h : l.drop p = []) : l.length ≤ p := List.drop_eq_nil_iff.mp h
theorem mem_drop {l : List Nat} {p c : Nat} {t : List Nat} (h : l.drop p = c :: t) : c ∈ l := List.mem_of_mem_drop (i := p) (by rw [h]; simp)
/-! The class reads tokens. -/
theorem zdg_iff {c : Nat} : zdg c = true ↔ 48 ≤ c ∧ c ≤ 57 := by
  unfold zdg; simp
theorem zdg_c {c : Nat} (h : c < 127) : zdg c = true ↔ ¬ nI c < 48 ∧ ¬ (57 : Int32) < nI c := by
  rw [zdg_iff, show (48 : Int32) = nI 48 from rfl, show (57 : Int32) = nI 57 from rfl, nI_lti (by omega) (by omega), nI_lti (by omega) (by omega)]
  omega
section TC
variable {ch : Nat → Int32} {tx : List Nat}
theorem sp_number (hx : ztx tx) (hw : zstr 80 (nI tx.length) ch tx) : ∀ (n : Nat) (s : List Nat) (p k a at_ : Nat) {qc : Int32} {qk qs qd : Nat → Int32} {l : List (Nat × Nat × Nat)},
    zqs qc qk qs qd l → l.length < 80 → tx.drop p = s → s.length < n → p ≤ tx.length → k ≤ p →
    zwp (fn_Tokens_readNumber_L8 80 (nI tx.length) ch n qc qk qs qd (nI at_) (nI a) (nI k) (nI p))
      (fun r => r.1 = nI (k + zrun s) ∧ zqs r.2.1 r.2.2.1 r.2.2.2.1 r.2.2.2.2 (l ++ [(if 6 < k + zrun s then 0 else 1, zval k a s, at_)]))
  | 0, s, _, _, _, _, _, _, _, _, _, _, _, _, h, _, _ => absurd h (Nat.not_lt_zero _)
  | n + 1, s, p, k, a, at_, qc, qk, qs, qd, l, hq, hl, hs, hn, hp, hk => by
    have hlen := hx.1
    have hend : zrun s = 0 → zval k a s = a → zwp (fn_Tokens_readNumber_b70 80 (nI tx.length) ch qc qk qs qd (nI at_) (nI a) (nI k)) (fun r => r.1 = nI (k + zrun s) ∧ zqs r.2.1 r.2.2.1 r.2.2.2.1 r.2.2.2.2 (l ++ [(if 6 < k + zrun s then 0 else 1, zval k a s, at_)])) := by
      intro h1 h2
      rw [h1, h2]
      unfold fn_Tokens_readNumber_b70
      refine zwp_ite (fun h => ?_) (fun h => ?_)
      · have h3 : 6 < k := (nI_lti (a := 6) (by omega) (by omega)).mp h
        unfold fn_Tokens_readNumber_b83
        refine zwp_ret (sp_add hq hl 0 at_ a (nI k)) (fun r hr => ⟨hr.1, ?_⟩)
        simp only [Nat.add_zero, if_pos h3]; exact hr.2
      · have h3 : ¬ 6 < k := fun h4 => h ((nI_lti (a := 6) (by omega) (by omega)).mpr h4)
        unfold fn_Tokens_readNumber_b83
        refine zwp_ret (sp_add hq hl 1 at_ a (nI k)) (fun r hr => ⟨hr.1, ?_⟩)
        simp only [Nat.add_zero, if_neg h3]; exact hr.2
    unfold fn_Tokens_readNumber_L8
    simp only [fn_CharRow_size]
    cases s with
    | nil =>
      have := drop_nil hs
      exact zwp_t (nI_le (by omega) (by omega)) (hend rfl rfl)
    | cons c t =>
      obtain ⟨h1, h2, h3⟩ := drop_cons hs
      have hc := hx.2 c (mem_drop hs)
      have hat : fn_CharRow_at 80 (nI tx.length) ch (nI p) = some (nI c) := by
        rw [sp_at (by omega) hw p (by omega), if_pos h1, h2]
      refine zwp_f (nI_ge h1 (by omega)) ?_
      rw [hat]
      simp only [Option.bind_some]
      by_cases hd : zdg c = true
      · obtain ⟨d1, d2⟩ := (zdg_c hc.2).mp hd
        rw [if_neg d1, if_neg d2]
        have hr : zrun (c :: t) = zrun t + 1 := by unfold zrun; rw [if_pos hd]; cases t <;> rfl
        rw [nI_add1, hr]
        refine zwp_ite (fun h => ?_) (fun h => ?_)
        · have h4 : 6 < k + 1 := (nI_lti (a := 6) (by omega) (by omega)).mp h
          have hv : zval k a (c :: t) = zval (k + 1) a t := by rw [zval, if_pos hd, if_neg (by omega)]
          unfold fn_Tokens_readNumber_b64
          rw [nI_add1, hv, show k + (zrun t + 1) = k + 1 + zrun t by omega]
          exact sp_number hx hw n t (p + 1) (k + 1) a at_ hq hl h3 (by simp at hn; omega) h1 (by omega)
        · have h4 : ¬ 6 < k + 1 := fun h5 => h ((nI_lti (a := 6) (by omega) (by omega)).mpr h5)
          have hv : zval k a (c :: t) = zval (k + 1) (10 * a + (c - 48)) t := by rw [zval, if_pos hd, if_pos (by omega)]
          have hd' := zdg_iff.mp hd
          have he : ((10 * nI a) + nI c) - 48 = nI (10 * a + (c - 48)) := by
            rw [show (10 : Int32) = nI 10 from rfl, show (48 : Int32) = nI 48 from rfl, nI_mulz, nI_add, nI_sub (by omega)]
            congr 1; omega
          unfold fn_Tokens_readNumber_b64
          rw [nI_add1, he, hv, show k + (zrun t + 1) = k + 1 + zrun t by omega]
          exact sp_number hx hw n t (p + 1) (k + 1) _ at_ hq hl h3 (by simp at hn; omega) h1 (by omega)
      · have h0 : zrun (c :: t) = 0 := by unfold zrun; rw [if_neg hd]
        have hv : zval k a (c :: t) = a := by rw [zval, if_neg hd]
        by_cases d1 : nI c < 48
        · rw [if_pos d1]; exact hend h0 hv
        · have d2 : (57 : Int32) < nI c := by
            rcases Decidable.em ((57 : Int32) < nI c) with d2 | d2
            · exact d2
            · exact absurd ((zdg_c hc.2).mpr ⟨d1, d2⟩) hd
          rw [if_neg d1, if_pos d2]; exact hend h0 hv
end TC
theorem fsym : (fn_Parser_symbolOf 3 = 0 ∧ fn_Parser_symbolOf 4 = 1 ∧ fn_Parser_symbolOf 5 = 2 ∧ fn_Parser_symbolOf 6 = 3) ∧ (zlen 0 = 3 ∧ zlen 1 = 3 ∧ zlen 2 = 3 ∧ zlen 3 = 3) := by decide +kernel
/-- the class's look for a word of three letters -/
def zw3 (i : Nat) : List Nat := [(zch i 0).toNatClampNeg, (zch i 1).toNatClampNeg, (zch i 2).toNatClampNeg]
theorem zw3_ok : ∀ i, i < 4 → ∀ j, j < 3 → zch i j = nI ((zw3 i).getD j 0) ∧ zlen i = 3 ∧ 0 < (zw3 i).getD j 0 ∧ (zw3 i).getD j 0 < 127 := by decide +kernel
section TC
variable {ch : Nat → Int32} {tx : List Nat}
theorem sp_at2 (hx : ztx tx) (hw : zstr 80 (nI tx.length) ch tx) (i v : Nat) (hi : i < 2 ^ 31) (h0 : 0 < v) (h1 : v < 127) :
    zwp (fn_CharRow_at 80 (nI tx.length) ch (nI i)) (fun q => q = nI v ↔ tx.getD i 0 = v) := by
  refine ⟨_, sp_at (by omega) hw i hi, ?_⟩
  by_cases h : i < tx.length
  · rw [if_pos h]
    have hm : tx.getD i 0 ∈ tx := by
      rw [List.getD, List.getElem?_eq_getElem h]; exact List.getElem_mem h
    have := hx.2 _ hm
    exact nI_inj (by omega) (by omega)
  · rw [if_neg h]
    constructor
    · intro e; exact absurd e.symm (nI_ne_neg (by omega) (by decide))
    · intro e
      rw [List.getD, List.getElem?_eq_none (by omega)] at e
      simp at e; omega
theorem sp_fun1 (hx : ztx tx) (hw : zstr 80 (nI tx.length) ch tx) (k20 : Int32 → Int32 → Option Int32) (p i : Nat) (x2 : Int32) (hi : i < 4) (hp : p < 80) {P : Int32 → Prop} :
    ∀ (m n : Nat) (b : Bool), m ≤ 3 → 3 - m < n → (b = true ↔ ∀ j, j < m → tx.getD (p + j) 0 = (zw3 i).getD j 0) →
    ((∀ j, j < 3 → tx.getD (p + j) 0 = (zw3 i).getD j 0) → P x2) → ((¬ ∀ j, j < 3 → tx.getD (p + j) 0 = (zw3 i).getD j 0) → zwp (k20 (nI p) (x2 + 1)) P) →
    zwp (fn_Tokens_functionAt_L19 80 (nI tx.length) ch k20 n (nI p) x2 i (if b = true then 1 else 0) (nI m)) P
  | m, 0, _, _, h, _, _, _ => absurd h (Nat.not_lt_zero _)
  | m, n + 1, b, hm, hn, hb, h1, h2 => by
    have hz := zw3_ok i hi
    unfold fn_Tokens_functionAt_L19
    refine zwp_f (by show ¬ 38 ≤ i; omega) ?_
    rw [(hz 0 (by omega)).2.1]
    by_cases hm3 : m = 3
    · subst hm3
      refine zwp_t (Int32.le_refl _) ?_
      cases b with
      | true => exact zwp_f (by decide) (zwp_some (h1 (hb.mp rfl)))
      | false => exact zwp_t (by decide) (h2 (fun h => by have := hb.mpr h; cases this))
    · refine zwp_f (nI_ge (a := m) (b := 3) (by omega) (by omega)) ?_
      cases b with
      | false =>
        refine zwp_t (by decide) ?_
        unfold fn_Tokens_functionAt_b54 fn_Tokens_functionAt_b55
        rw [nI_add1]
        refine sp_fun1 hx hw k20 p i x2 hi hp (m + 1) n false (by omega) (by omega) ?_ h1 h2
        constructor
        · intro h; cases h
        · intro h; exact hb.mpr fun j hj => h j (by omega)
      | true =>
        refine zwp_f (by decide) ?_
        rw [nI_add]
        refine zwp_seq (sp_at2 hx hw (p + m) ((zw3 i).getD m 0) (by omega) (hz m (by omega)).2.2.1 (hz m (by omega)).2.2.2) (fun q hq => ?_)
        refine zwp_f (by rintro (h | h); (· exact absurd (show 38 ≤ i from h) (by omega)); exact nI_in (c := m) (N := 3) (by omega) (by omega) h) ?_
        rw [nI_clamp (by omega), (hz m (by omega)).1]
        refine zwp_ite (fun h => ?_) (fun h => ?_)
        · unfold fn_Tokens_functionAt_b55
          rw [nI_add1]
          refine sp_fun1 hx hw k20 p i x2 hi hp (m + 1) n true (by omega) (by omega) ?_ h1 h2
          simp only [true_iff]
          intro j hj
          rcases Nat.lt_or_ge j m with h3 | h3
          · exact hb.mp rfl j h3
          · have : j = m := by omega
            subst this; exact hq.mp h
        · unfold fn_Tokens_functionAt_b54 fn_Tokens_functionAt_b55
          rw [nI_add1]
          refine sp_fun1 hx hw k20 p i x2 hi hp (m + 1) n false (by omega) (by omega) ?_ h1 h2
          constructor
          · intro h; cases h
          · intro h3; exact absurd (hq.mpr (h3 m (by omega))) h
theorem take3 {tx : List Nat} {p a b c : Nat} (ha : 0 < a) (hb : 0 < b) (hc : 0 < c) : (tx.drop p).take 3 = [a, b, c] ↔ ∀ j, j < 3 → tx.getD (p + j) 0 = [a, b, c].getD j 0 := by
  have e : ∀ j, tx.getD (p + j) 0 = (tx.drop p).getD j 0 := fun j => getD_drop.symm
  simp only [e]
  generalize tx.drop p = s
  constructor
  · intro h j hj
    have h3 : (s.take 3).getD j 0 = s.getD j 0 := by
      simp [List.getD, List.getElem?_take, hj]
    rw [← h3, h]
  · intro h
    have h0 := h 0 (by omega); have h1 := h 1 (by omega); have h2 := h 2 (by omega)
    match s, h0, h1, h2 with
    | [], h0, _, _ => simp at h0; omega
    | [x], _, h1, _ => simp at h1; omega
    | [x, y], _, _, h2 => simp at h2; omega
    | x :: y :: z :: t, h0, h1, h2 => simp at h0 h1 h2; simp [h0, h1, h2]
theorem sp_fun (hx : ztx tx) (hw : zstr 80 (nI tx.length) ch tx) (p : Nat) (hp : p < 80) : fn_Tokens_functionAt 80 (nI tx.length) ch (nI p) = some (nI (zfun (tx.drop p))) := by
  suffices h : zwp (fn_Tokens_functionAt 80 (nI tx.length) ch (nI p)) (fun r => r = nI (zfun (tx.drop p))) by
    obtain ⟨r, h1, rfl⟩ := h; exact h1
  unfold fn_Tokens_functionAt
  have e0 : (tx.drop p).take 3 = [97, 98, 115] ↔ _ := take3 (by omega) (by omega) (by omega)
  have e1 : (tx.drop p).take 3 = [115, 103, 110] ↔ _ := take3 (by omega) (by omega) (by omega)
  have e2 : (tx.drop p).take 3 = [115, 113, 114] ↔ _ := take3 (by omega) (by omega) (by omega)
  have e3 : (tx.drop p).take 3 = [100, 98, 108] ↔ _ := take3 (by omega) (by omega) (by omega)
  have L : ∀ (n : Nat) (P : Int32 → Prop) (i : Nat) (k20 : Int32 → Int32 → Option Int32) (x2 : Int32), i < 4 → ((∀ j, j < 3 → tx.getD (p + j) 0 = (zw3 i).getD j 0) → P x2) → ((¬ ∀ j, j < 3 → tx.getD (p + j) 0 = (zw3 i).getD j 0) → zwp (k20 (nI p) (x2 + 1)) P) → zwp (fn_Tokens_functionAt_L19 80 (nI tx.length) ch k20 zFU (nI p) x2 i 1 0) P :=
    fun n P i k20 x2 hi h1 h2 => sp_fun1 hx hw k20 p i x2 hi hp 0 zFU true (by omega) (by decide) (by simp) h1 h2
  have F : zFU = 99999 + 1 := rfl
  rw [F]; unfold fn_Tokens_functionAt_L2
  refine zwp_f (by decide) ?_
  rw [fsym.1.1]
  refine L 0 _ 0 _ 3 (by omega) (fun h => ?_) (fun h => ?_)
  · unfold zfun; rw [if_pos (e0.mpr h)]; rfl
  have g0 := fun h1 => h (e0.mp h1)
  unfold fn_Tokens_functionAt_L2
  refine zwp_f (by decide) ?_
  rw [show (3 : Int32) + 1 = 4 from rfl, fsym.1.2.1]
  refine L 0 _ 1 _ 4 (by omega) (fun h => ?_) (fun h => ?_)
  · unfold zfun; rw [if_neg g0, if_pos (e1.mpr h)]; rfl
  have g1 := fun h1 => h (e1.mp h1)
  unfold fn_Tokens_functionAt_L2
  refine zwp_f (by decide) ?_
  rw [show (4 : Int32) + 1 = 5 from rfl, fsym.1.2.2.1]
  refine L 0 _ 2 _ 5 (by omega) (fun h => ?_) (fun h => ?_)
  · unfold zfun; rw [if_neg g0, if_neg g1, if_pos (e2.mpr h)]; rfl
  have g2 := fun h1 => h (e2.mp h1)
  unfold fn_Tokens_functionAt_L2
  refine zwp_f (by decide) ?_
  rw [show (5 : Int32) + 1 = 6 from rfl, fsym.1.2.2.2]
  refine L 0 _ 3 _ 6 (by omega) (fun h => ?_) (fun h => ?_)
  · unfold zfun; rw [if_neg g0, if_neg g1, if_neg g2, if_pos (e3.mpr h)]; rfl
  have g3 := fun h1 => h (e3.mp h1)
  unfold fn_Tokens_functionAt_L2
  refine zwp_t (by decide) (zwp_some ?_)
  unfold zfun; rw [if_neg g0, if_neg g1, if_neg g2, if_neg g3]; rfl
end TC
section TC
variable {ch : Nat → Int32} {tx : List Nat}
theorem zle97 {c : Nat} (h : c < 127) : (97 ≤ c ∧ c ≤ 122) ↔ ¬ nI c < 97 ∧ ¬ (122 : Int32) < nI c := by
  rw [show (97 : Int32) = nI 97 from rfl, show (122 : Int32) = nI 122 from rfl, nI_lti (by omega) (by omega), nI_lti (by omega) (by omega)]
  omega
theorem zsub97 {c : Nat} (h : 97 ≤ c) : nI c - 97 = nI (c - 97) := by rw [show (97 : Int32) = nI 97 from rfl, nI_sub h]
theorem zsymz (s : List Nat) (h : ¬ zfun s = 0) : fn_Parser_symbolOf (nI (zfun s)) < 4 ∧ zlen (fn_Parser_symbolOf (nI (zfun s))) = 3 := by
  have : ∀ k, k < 7 → 3 ≤ k → fn_Parser_symbolOf (nI k) < 4 ∧ zlen (fn_Parser_symbolOf (nI k)) = 3 := by decide +kernel
  exact this _ (zfun_lt s).1 ((zfun_lt s).2 h).1
theorem sp_token (hx : ztx tx) (hw : zstr 80 (nI tx.length) ch tx) (p c : Nat) (t : List Nat) (hs : tx.drop p = c :: t) {qc : Int32} {qk qs qd : Nat → Int32} {l : List (Nat × Nat × Nat)}
    (hq : zqs qc qk qs qd l) (hl : l.length < 80) :
    zwp (fn_Tokens_readToken 80 qc qk qs qd (nI tx.length) ch (nI p)) (fun r => r.1 = nI (ztok (c :: t)).2.2 ∧ zqs r.2.1 r.2.2.1 r.2.2.2.1 r.2.2.2.2 (l ++ [((ztok (c :: t)).1, (ztok (c :: t)).2.1, p)])) := by
  have hlen := hx.1
  obtain ⟨h1, h2, h3⟩ := drop_cons hs
  have hc := hx.2 c (mem_drop hs)
  have hat : fn_CharRow_at 80 (nI tx.length) ch (nI p) = some (nI c) := by
    rw [sp_at (by omega) hw p (by omega), if_pos h1, h2]
  unfold fn_Tokens_readToken
  rw [hat]
  simp only [Option.bind_some]
  have hR : ∀ (k d w : Nat) (w' : Int32), w' = nI w → ztok (c :: t) = (k, d, w) → zwp ((fn_Tokens_add qc qk qs qd (nI k) (nI p) (nI d) w').bind fun q12 => some (q12.1, q12.2.1, q12.2.2.1, q12.2.2.2.1, q12.2.2.2.2)) (fun r => r.1 = nI (ztok (c :: t)).2.2 ∧ zqs r.2.1 r.2.2.1 r.2.2.2.1 r.2.2.2.2 (l ++ [((ztok (c :: t)).1, (ztok (c :: t)).2.1, p)])) := by
    rintro k d w w' rfl e
    rw [e]
    exact zwp_ret (sp_add hq hl k p d (nI w)) (fun r hr => hr)
  have hB : ¬ zdg c = true → zwp (fn_Tokens_readToken_b25 80 (nI tx.length) ch qc qk qs qd (nI p) (nI c)) (fun r => r.1 = nI (ztok (c :: t)).2.2 ∧ zqs r.2.1 r.2.2.1 r.2.2.2.1 r.2.2.2.2 (l ++ [((ztok (c :: t)).1, (ztok (c :: t)).2.1, p)])) := by
    intro hd
    have h78 : ¬ (97 ≤ c ∧ c ≤ 122) → zwp (fn_Tokens_readToken_b78 80 (nI tx.length) ch qc qk qs qd (nI p) (nI c)) (fun r => r.1 = nI (ztok (c :: t)).2.2 ∧ zqs r.2.1 r.2.2.1 r.2.2.2.1 r.2.2.2.2 (l ++ [((ztok (c :: t)).1, (ztok (c :: t)).2.1, p)])) := by
      intro hn
      unfold fn_Tokens_readToken_b78
      rw [nI_add1, sp_at (by omega) hw (p + 1) (by omega)]
      simp only [Option.bind_some]
      have hk : fn_Tokens_kindOfPair (nI c) (if p + 1 < tx.length then nI (tx.getD (p + 1) 0) else -3) = nI (zpair c (t.getD 0 0)) ∧ zpair c (t.getD 0 0) < 25 := by
        have e : t.getD 0 0 = tx.getD (p + 1) 0 := by rw [← h3, getD_drop]
        rw [e]
        by_cases h5 : p + 1 < tx.length
        · rw [if_pos h5]
          have hm : tx.getD (p + 1) 0 ∈ tx := by rw [List.getD, List.getElem?_eq_getElem h5]; exact List.getElem_mem h5
          exact zpair_ok c hc.2 _ (hx.2 _ hm).2
        · rw [if_neg h5]
          have e0 : tx.getD (p + 1) 0 = 0 := by rw [List.getD, List.getElem?_eq_none (by omega), Option.getD_none]
          rw [e0]
          exact ⟨zpair_m c hc.2, by rw [zpair0 c hc.2]; decide⟩
      rw [hk.1]
      by_cases h0 : zpair c (t.getD 0 0) = 0
      · rw [h0]
        refine zwp_t rfl ?_
        rw [(zsign_ok c hc.2).1]
        exact hR _ 0 1 1 rfl (ztok_s hd hn h0)
      · refine zwp_f (nI_ne0 (Nat.pos_of_ne_zero h0) (by omega)) ?_
        exact hR _ 0 2 2 rfl (ztok_p hd hn h0)
    unfold fn_Tokens_readToken_b25
    refine zwp_ite (fun h => h78 fun h4 => ((zle97 hc.2).mp h4).1 h) (fun ha => zwp_ite (fun h => h78 fun h4 => ((zle97 hc.2).mp h4).2 h) (fun hb => ?_))
    have hab := (zle97 hc.2).mpr ⟨ha, hb⟩
    rw [sp_fun hx hw p (by omega), hs]
    simp only [Option.bind_some]
    by_cases h0 : zfun (c :: t) = 0
    · rw [h0]
      refine zwp_t rfl ?_
      rw [zsub97 hab.1]
      exact hR 2 (c - 97) 1 1 rfl (ztok_v hd hab h0)
    · have hz := zfun_lt (c :: t)
      refine zwp_f (nI_ne0 (Nat.pos_of_ne_zero h0) (by omega)) ?_
      have hy := zsymz _ h0
      refine zwp_f (Nat.not_le.mpr (Nat.lt_of_lt_of_le hy.1 (by decide))) ?_
      exact hR _ 0 3 _ (by rw [hy.2]) (ztok_f hd hab h0)
  refine zwp_ite (fun h => hB fun h4 => ((zdg_c hc.2).mp h4).1 h) (fun ha => zwp_ite (fun h => hB fun h4 => ((zdg_c hc.2).mp h4).2 h) (fun hb => ?_))
  have hd := (zdg_c hc.2).mpr ⟨ha, hb⟩
  unfold fn_Tokens_readNumber
  rw [ztok_d hd]
  refine zwp_ret (Q := fun r => r.1 = nI (zrun (c :: t)) ∧ zqs r.2.1 r.2.2.1 r.2.2.2.1 r.2.2.2.2 (l ++ [(if 6 < zrun (c :: t) then 0 else 1, zval 0 0 (c :: t), p)])) ?_ (fun r hr => hr)
  have := sp_number hx hw zFU (c :: t) p 0 0 p hq hl hs (by have := congrArg List.length hs; rw [List.length_drop] at this; rw [← this]; exact Nat.lt_of_le_of_lt (Nat.sub_le _ _) (Nat.lt_of_le_of_lt hlen (by decide))) (by omega) (by omega)
  simp only [Nat.zero_add] at this
  exact this
/-- tokens are not more than characters -/
theorem ztoks_len : ∀ (f p : Nat) (s : List Nat), (∀ c ∈ s, c < 127) → (ztoks f p s).length ≤ s.length
  | 0, _, _, _ => Nat.zero_le _
  | f + 1, _, [], _ => Nat.zero_le _
  | f + 1, p, c :: t, h => by
    unfold ztoks
    split
    · have := ztoks_len f (p + 1) t (fun x hx => h x (by simp [hx])); simp; omega
    · have hw := ztok_w (t := t) (h c (by simp))
      have := ztoks_len f (p + (ztok (c :: t)).2.2) ((c :: t).drop (ztok (c :: t)).2.2) (fun x hx => h x (List.mem_of_mem_drop hx))
      rw [List.length_drop] at this
      simp only [List.length_cons] at *
      omega
theorem ztoks_fuel : ∀ (f g p : Nat) (s : List Nat), (∀ c ∈ s, c < 127) → s.length ≤ f → s.length ≤ g → ztoks f p s = ztoks g p s
  | 0, 0, _, _, _, _, _ => rfl
  | 0, g + 1, _, [], _, _, _ => rfl
  | f + 1, 0, _, [], _, _, _ => rfl
  | f + 1, g + 1, _, [], _, _, _ => rfl
  | 0, _ + 1, _, _ :: _, _, h, _ => by simp at h
  | _ + 1, 0, _, _ :: _, _, _, h => by simp at h
  | f + 1, g + 1, p, c :: t, h, h1, h2 => by
    unfold ztoks
    have hw := ztok_w (t := t) (h c (by simp))
    rw [ztoks_fuel f g (p + 1) t (fun x hx => h x (by simp [hx])) (by simp at h1; omega) (by simp at h2; omega),
      ztoks_fuel f g (p + (ztok (c :: t)).2.2) ((c :: t).drop (ztok (c :: t)).2.2) (fun x hx => h x (List.mem_of_mem_drop hx)) (by rw [List.length_drop]; simp at h1 ⊢; omega) (by rw [List.length_drop]; simp at h2 ⊢; omega)]
/-- the tokens of a text -/
def zTK (tx : List Nat) : List (Nat × Nat × Nat) := ztoks (tx.length + 1) 0 tx
theorem sp_read (hx : ztx tx) (hw : zstr 80 (nI tx.length) ch tx) : ∀ (n i nx f : Nat) {qc : Int32} {qk qs qd : Nat → Int32} {l : List (Nat × Nat × Nat)},
    zqs qc qk qs qd l → i ≤ tx.length → nx ≤ tx.length → tx.length - i < n → l.length ≤ max i nx → tx.length - max i nx ≤ f →
    zwp (fn_Tokens_read_L9 80 (nI tx.length) ch n qc qk qs qd (nI nx) (nI i)) (fun r => zqs r.1 r.2.1 r.2.2.1 r.2.2.2 (l ++ ztoks f (max i nx) (tx.drop (max i nx))))
  | 0, _, _, _, _, _, _, _, _, _, _, _, h, _, _ => absurd h (Nat.not_lt_zero _)
  | n + 1, i, nx, f, qc, qk, qs, qd, l, hq, hi, hnx, hn, hl, hf => by
    have hlen := hx.1
    have hall : ∀ c ∈ tx, c < 127 := fun c hc => (hx.2 c hc).2
    unfold fn_Tokens_read_L9
    simp only [fn_CharRow_size]
    by_cases hend : tx.length ≤ i
    · refine zwp_t (nI_le hend (by omega)) (zwp_some ?_)
      have : tx.drop (max i nx) = [] := List.drop_eq_nil_of_le (by omega)
      rw [this]
      have e : ztoks f (max i nx) [] = [] := by cases f <;> rfl
      rw [e, List.append_nil]; exact hq
    · refine zwp_f (nI_ge (by omega) (by omega)) ?_
      unfold fn_Tokens_read_b41
      rw [nI_add1]
      by_cases hskip : i < nx
      · refine zwp_t (nI_lt hskip (by omega)) ?_
        have := sp_read hx hw n (i + 1) nx f hq (by omega) hnx (by omega) (by omega) (by omega)
        rw [show max (i + 1) nx = max i nx by omega] at this; exact this
      · refine zwp_f (nI_nlt (by omega) (by omega)) ?_
        have hm : max i nx = i := by omega
        rw [hm] at hl hf ⊢
        cases hs : tx.drop i with
        | nil => exact absurd (drop_nil hs) hend
        | cons c t =>
          obtain ⟨h1, h2, h3⟩ := drop_cons hs
          have hc := hx.2 c (mem_drop hs)
          have hat : fn_CharRow_at 80 (nI tx.length) ch (nI i) = some (nI c) := by
            rw [sp_at (by omega) hw i (by omega), if_pos h1, h2]
          rw [hat]
          simp only [Option.bind_some]
          have hft : (c :: t).length ≤ f := by rw [← hs, List.length_drop]; exact hf
          cases f with
          | zero => simp at hft
          | succ f =>
            by_cases h32 : c = 32
            · refine zwp_t (by rw [h32]; rfl) ?_
              have := sp_read hx hw n (i + 1) nx f hq (by omega) hnx (by omega) (by omega) (by omega)
              rw [show max (i + 1) nx = i + 1 by omega, h3] at this
              rw [ztoks, if_pos h32]; exact this
            · refine zwp_f (fun e => h32 ((nI_inj (b := 32) (by omega) (by omega)).mp e)) ?_
              have hw2 := ztok_w (t := t) hc.2
              have hlt : (c :: t).length = tx.length - i := by rw [← hs, List.length_drop]
              refine zwp_seq (sp_token hx hw i c t hs hq (by omega)) (fun r hr => ?_)
              rw [hr.1, nI_add]
              have := sp_read hx hw n (i + 1) (i + (ztok (c :: t)).2.2) f hr.2 (by omega) (by omega) (by omega) (by simp; omega) (by omega)
              rw [show max (i + 1) (i + (ztok (c :: t)).2.2) = i + (ztok (c :: t)).2.2 by omega, ← List.drop_drop, hs, List.append_assoc] at this
              rw [ztoks, if_neg h32]; exact this
theorem sp_tokens (hx : ztx tx) (hw : zstr 80 (nI tx.length) ch tx) (qc : Int32) (qk qs qd : Nat → Int32) :
    zwp (fn_Tokens_read 80 qc qk qs qd (nI tx.length) ch) (fun r => zqs r.1 r.2.1 r.2.2.1 r.2.2.2 (zTK tx)) := by
  unfold fn_Tokens_read
  have := sp_read hx hw zFU 0 0 (tx.length + 1) (qc := 0) (qk := qk) (qs := qs) (qd := qd) (l := []) ⟨rfl, zrw_nil, zrw_nil, zrw_nil⟩ (by omega) (by omega) (Nat.lt_of_le_of_lt (Nat.sub_le _ _) (Nat.lt_of_le_of_lt hx.1 (by decide))) (by simp) (by omega)
  simp only [Nat.max_self, List.drop_zero, List.nil_append] at this
  exact this
theorem zTK_len (hx : ztx tx) : (zTK tx).length ≤ tx.length := ztoks_len _ _ _ (fun c hc => (hx.2 c hc).2)
end TC
/-! The reference reads tokens. -/
/-- the reference's number for a kind of the class -/
def zka (k : Nat) : Nat := [21, 1, 2, 3, 3, 3, 3, 5, 6, 7, 8, 9, 22, 23, 12, 13, 14, 15, 16, 17, 18, 19, 10, 11, 4].getD k 21
def zaa (k d : Nat) : Nat := if 3 ≤ k ∧ k ≤ 6 then k - 3 else d
theorem rin_dg : ∀ c, c < 127 → (fn_Ref_in (nI c).toInt64 48 57 = 0 ↔ ¬ zdg c = true) := by decide +kernel
theorem rin_le : ∀ c, c < 127 → (fn_Ref_in (nI c).toInt64 97 122 = 0 ↔ ¬ (97 ≤ c ∧ c ≤ 122)) := by decide +kernel
theorem rsign_ok : ∀ a, a < 127 → ∀ b, b < 127 → fn_Ref_signOf (nI a) (nI b) = nI (zka (if zpair a b = 0 then zsign a else zpair a b)) := by decide +kernel
theorem rsign_1 : ∀ a, a < 127 → ¬ zka (zsign a) = 15 ∧ ¬ zka (zsign a) = 16 ∧ ¬ zka (zsign a) = 17 ∧ ¬ zka (zsign a) = 19 := by decide +kernel
theorem rsign_2 : ∀ a, a < 127 → ∀ b, b < 127 → zpair a b = 0 ∨ zka (zpair a b) = 15 ∨ zka (zpair a b) = 16 ∨ zka (zpair a b) = 17 ∨ zka (zpair a b) = 19 := by decide +kernel
theorem zka_lt : ∀ k, k < 25 → zka k < 24 := by decide
section RT
variable {ch : Nat → Int32} {tx : List Nat}
theorem rp_at (hx : ztx tx) (hw : zrw ch nI tx) (i : Nat) (hi : i < 2 ^ 31) : fn_Ref_at (nI tx.length) ch (nI i) = some (nI (tx.getD i 0)) := by
  have hlen := hx.1
  unfold fn_Ref_at
  by_cases h : i < tx.length
  · rw [if_neg (nI_ge h (by omega)), if_neg (nI_in (by omega) (by omega)), nI_clamp hi, zrw_getD hw h]
  · rw [if_pos (nI_le (by omega) hi), List.getD, List.getElem?_eq_none (by omega)]; rfl
theorem zgetD_lt (hx : ztx tx) (i : Nat) : tx.getD i 0 < 127 := by
  rw [List.getD]
  cases h : tx[i]? with
  | none => exact (by decide : 0 < 127)
  | some c => exact (hx.2 c (List.mem_of_getElem? h)).2
theorem rp_number (hx : ztx tx) (hw : zrw ch nI tx) (tk : Int32) (at_ : Nat) : ∀ (n : Nat) (s : List Nat) (k a : Nat) (b : Nat) (ah : Int32),
    tx.drop (at_ + k) = s → s.length < n → at_ + k ≤ tx.length → (k ≤ 6 → a = b) →
    zwp (fn_Ref_read_L34 (nI tx.length) ch n tk (nI a) ah (nI at_) (nI (at_ + k)))
      (fun r => r.1 = nI (if 6 < k + zrun s then 21 else 1) ∧ (k + zrun s ≤ 6 → r.2.1 = nI (zval k b s)) ∧ r.2.2 = nI (at_ + (k + zrun s)))
  | 0, _, _, _, _, _, _, h, _, _ => absurd h (Nat.not_lt_zero _)
  | n + 1, s, k, a, b, ah, hs, hn, hp, hab => by
    have hlen := hx.1
    unfold fn_Ref_read_L34
    rw [rp_at hx hw _ (by omega)]
    simp only [Option.bind_some]
    have hlt := zgetD_lt hx (at_ + k)
    have e0 : nI (at_ + k) - nI at_ = nI k := by rw [nI_sub (by omega)]; congr 1; omega
    have e6 : ∀ q, q < 2 ^ 31 → (nI q ≤ (6 : Int32) ↔ q ≤ 6) := fun q hq => nI_lei (b := 6) hq (by omega)
    have e6' : ∀ q, q < 2 ^ 31 → ((6 : Int32) ≤ nI q ↔ 6 ≤ q) := fun q hq => nI_lei (a := 6) (by omega) hq
    rw [e0]
    have hend : zrun s = 0 → zval k b s = b → zwp (if nI k ≤ 6 then some ((1 : Int32), nI a, nI (at_ + k)) else some (21, nI a, nI (at_ + k))) (fun r => r.1 = nI (if 6 < k + zrun s then 21 else 1) ∧ (k + zrun s ≤ 6 → r.2.1 = nI (zval k b s)) ∧ r.2.2 = nI (at_ + (k + zrun s))) := by
      intro h1 h2
      rw [h1, h2]
      refine zwp_ite (fun h => zwp_some ?_) (fun h => zwp_some ?_)
      · have := (e6 k (by omega)).mp h
        refine ⟨?_, fun _ => by rw [hab this], rfl⟩
        show (1 : Int32) = _
        rw [if_neg (by omega)]; rfl
      · have : ¬ k ≤ 6 := fun h1 => h ((e6 k (by omega)).mpr h1)
        refine ⟨?_, fun h3 => absurd h3 (by omega), rfl⟩
        show (21 : Int32) = _
        rw [if_pos (by omega)]; rfl
    cases s with
    | nil =>
      have h9 := drop_nil hs
      have hg : tx.getD (at_ + k) 0 = 0 := by rw [List.getD, List.getElem?_eq_none (by omega), Option.getD_none]
      rw [hg]
      exact zwp_t (by decide) (hend rfl (by cases k <;> rfl))
    | cons c t =>
      obtain ⟨h1, h2, h3⟩ := drop_cons hs
      have hc := hx.2 c (mem_drop hs)
      rw [h2]
      by_cases hd : zdg c = true
      · refine zwp_f (fun h => (rin_dg c hc.2).mp h hd) ?_
        have hr : zrun (c :: t) = zrun t + 1 := by unfold zrun; rw [if_pos hd]; cases t <;> rfl
        rw [hr, show k + (zrun t + 1) = k + 1 + zrun t by omega]
        have hst : tx.drop (at_ + (k + 1)) = t := by rw [show at_ + (k + 1) = at_ + k + 1 by omega]; exact h3
        refine zwp_ite (fun h => ?_) (fun h => ?_)
        · have h6 := (e6' k (by omega)).mp h
          have hv : zval k b (c :: t) = zval (k + 1) b t := by rw [zval, if_pos hd, if_neg (by omega)]
          unfold fn_Ref_read_b81
          rw [nI_add1, hv]
          exact rp_number hx hw tk at_ n t (k + 1) 0 b ah hst (by simp at hn; omega) (by omega) (fun h => by omega)
        · have h6 : ¬ 6 ≤ k := fun h1 => h ((e6' k (by omega)).mpr h1)
          have hv : zval k b (c :: t) = zval (k + 1) (10 * b + (c - 48)) t := by rw [zval, if_pos hd, if_pos (by omega)]
          have hd' := zdg_iff.mp hd
          have he : ((10 * nI a) + nI c) - 48 = nI (10 * a + (c - 48)) := by
            rw [show (10 : Int32) = nI 10 from rfl, show (48 : Int32) = nI 48 from rfl, nI_mulz, nI_add, nI_sub (by omega)]
            congr 1; omega
          unfold fn_Ref_read_b81
          rw [nI_add1, hv, he]
          exact rp_number hx hw tk at_ n t (k + 1) _ _ ah hst (by simp at hn; omega) (by omega) (fun h => by rw [hab (by omega)])
      · have h0 : zrun (c :: t) = 0 := by unfold zrun; rw [if_neg hd]
        have hv : zval k b (c :: t) = b := by rw [zval, if_neg hd]
        exact zwp_t ((rin_dg c hc.2).mpr hd) (hend h0 hv)
theorem rp_fun (hx : ztx tx) (hw : zrw ch nI tx) (p : Nat) (hp : p < 80) :
    fn_Ref_functionAt (nI tx.length) ch (nI p) = some (if zfun (tx.drop p) = 0 then -3 else nI (zfun (tx.drop p) - 3)) := by
  unfold fn_Ref_functionAt
  rw [show (2 : Int32) = nI 2 from rfl, nI_add1, nI_add, rp_at hx hw _ (by omega), rp_at hx hw _ (by omega), rp_at hx hw _ (by omega)]
  simp only [Option.bind_some]
  have e0 : (tx.drop p).take 3 = [97, 98, 115] ↔ _ := take3 (by omega) (by omega) (by omega)
  have e1 : (tx.drop p).take 3 = [115, 103, 110] ↔ _ := take3 (by omega) (by omega) (by omega)
  have e2 : (tx.drop p).take 3 = [115, 113, 114] ↔ _ := take3 (by omega) (by omega) (by omega)
  have e3 : (tx.drop p).take 3 = [100, 98, 108] ↔ _ := take3 (by omega) (by omega) (by omega)
  have hA := zgetD_lt hx p; have hB := zgetD_lt hx (p + 1); have hC := zgetD_lt hx (p + 2)
  have F : ∀ (x y z : Nat), (∀ j, j < 3 → tx.getD (p + j) 0 = [x, y, z].getD j 0) ↔ (tx.getD p 0 = x ∧ tx.getD (p + 1) 0 = y ∧ tx.getD (p + 2) 0 = z) := by
    intro x y z
    constructor
    · intro h; exact ⟨h 0 (by omega), h 1 (by omega), h 2 (by omega)⟩
    · rintro ⟨h0, h1, h2⟩ j hj
      match j, hj with
      | 0, _ => exact h0
      | 1, _ => exact h1
      | 2, _ => exact h2
      | j + 3, h => omega
  rw [F] at e0 e1 e2 e3
  unfold zfun
  simp only [e0, e1, e2, e3]
  generalize tx.getD p 0 = a at *; generalize tx.getD (p + 1) 0 = b at *; generalize tx.getD (p + 2) 0 = c at *
  have q : ∀ (u v : Nat), u < 127 → v < 127 → (nI u = nI v ↔ u = v) := fun u v h1 h2 => nI_inj (by omega) (by omega)
  unfold fn_Ref_functionAt_b46 fn_Ref_functionAt_b69 fn_Ref_functionAt_b92
  simp only [show (97 : Int32) = nI 97 from rfl, show (98 : Int32) = nI 98 from rfl, show (115 : Int32) = nI 115 from rfl, show (103 : Int32) = nI 103 from rfl, show (110 : Int32) = nI 110 from rfl, show (113 : Int32) = nI 113 from rfl, show (114 : Int32) = nI 114 from rfl, show (100 : Int32) = nI 100 from rfl, show (108 : Int32) = nI 108 from rfl,
    q a _ hA (by omega : 97 < 127), q a _ hA (by omega : 115 < 127), q a _ hA (by omega : 100 < 127), q b _ hB (by omega : 98 < 127), q b _ hB (by omega : 103 < 127), q b _ hB (by omega : 113 < 127), q c _ hC (by omega : 115 < 127), q c _ hC (by omega : 110 < 127), q c _ hC (by omega : 114 < 127), q c _ hC (by omega : 108 < 127)]
  by_cases h1 : a = 97
  · subst h1
    by_cases h2 : b = 98
    · subst h2
      by_cases h3 : c = 115
      · subst h3; simp; rfl
      · simp [h3]
    · simp [h2]
  · by_cases h4 : a = 115
    · subst h4
      by_cases h5 : b = 103
      · subst h5
        by_cases h6 : c = 110
        · subst h6; simp; rfl
        · simp [h6]
      · by_cases h7 : b = 113
        · subst h7
          by_cases h8 : c = 114
          · subst h8; simp; rfl
          · simp [h8]
        · simp [h5, h7]
    · by_cases h9 : a = 100
      · subst h9
        by_cases h2 : b = 98
        · subst h2
          by_cases h10 : c = 108
          · subst h10; simp; rfl
          · simp [h10]
        · simp [h2]
      · simp [h1, h4, h9]
end RT
/-! The grammar, token by token: state, depth, links, primes, whether dots are due. -/
def zsyP (st d l p o k : Nat) : Option (Nat × Nat × Nat × Nat × Nat) :=
  if k = 1 ∨ k = 2 then some (3, d, l, p, o) else if k = 22 then some (0, d + 1, l, p, o) else if 3 ≤ k ∧ k ≤ 6 then some (2, d, l, 0, o)
  else if k = 24 ∧ st = 2 ∧ p < 3 then some (2, d, l, p + 1, o) else if k = 8 ∧ st = 0 then some (1, d, l, p, o) else none
def zsyF (d l p o k : Nat) : Option (Nat × Nat × Nat × Nat × Nat) :=
  if 7 ≤ k ∧ k ≤ 11 then some (1, d, l, p, o) else if 0 < d then (if k = 23 then some (3, d - 1, l, p, o) else none)
  else if o = 1 then (if k = 21 then some (0, 0, l, p, 0) else none) else if 14 ≤ k ∧ k ≤ 20 ∧ l < 4 then some (0, 0, l + 1, p, if k = 20 then 1 else 0) else none
def zsy (s : Nat × Nat × Nat × Nat × Nat) (k : Nat) : Option (Nat × Nat × Nat × Nat × Nat) :=
  if s.1 = 3 ∧ ¬ (2 ≤ k ∧ k ≤ 6 ∨ k = 22) then zsyF s.2.1 s.2.2.1 s.2.2.2.1 s.2.2.2.2 k else zsyP s.1 s.2.1 s.2.2.1 s.2.2.2.1 s.2.2.2.2 k
/-- numbers of a state that stand for themselves -/
def zsok (s : Nat × Nat × Nat × Nat × Nat) : Prop := s.1 < 4 ∧ s.2.2.1 ≤ 4 ∧ s.2.2.2.1 ≤ 3 ∧ s.2.2.2.2 ≤ 1
theorem nI_le0 {d : Nat} (h : d < 2 ^ 31) : nI d ≤ 0 ↔ d = 0 := by
  rw [show (0 : Int32) = nI 0 from rfl, nI_lei h (by omega)]; omega
theorem nI_eq0 {d : Nat} (h : d < 2 ^ 31) : nI d = 0 ↔ d = 0 := nI_inj (b := 0) h (by omega)
theorem k25 {P : Nat → Prop} (h : P 0 ∧ P 1 ∧ P 2 ∧ P 3 ∧ P 4 ∧ P 5 ∧ P 6 ∧ P 7 ∧ P 8 ∧ P 9 ∧ P 10 ∧ P 11 ∧ P 12 ∧ P 13 ∧ P 14 ∧ P 15 ∧ P 16 ∧ P 17 ∧ P 18 ∧ P 19 ∧ P 20 ∧ P 21 ∧ P 22 ∧ P 23 ∧ P 24) : ∀ k, k < 25 → P k := by
  obtain ⟨h0, h1, h2, h3, h4, h5, h6, h7, h8, h9, h10, h11, h12, h13, h14, h15, h16, h17, h18, h19, h20, h21, h22, h23, h24⟩ := h
  intro k hk
  match k, hk with
  | 0, _ => exact h0 | 1, _ => exact h1 | 2, _ => exact h2 | 3, _ => exact h3 | 4, _ => exact h4 | 5, _ => exact h5 | 6, _ => exact h6 | 7, _ => exact h7 | 8, _ => exact h8 | 9, _ => exact h9 | 10, _ => exact h10 | 11, _ => exact h11 | 12, _ => exact h12
  | 13, _ => exact h13 | 14, _ => exact h14 | 15, _ => exact h15 | 16, _ => exact h16 | 17, _ => exact h17 | 18, _ => exact h18 | 19, _ => exact h19 | 20, _ => exact h20 | 21, _ => exact h21 | 22, _ => exact h22 | 23, _ => exact h23 | 24, _ => exact h24
  | k + 25, h => omega
theorem nIlit : nI 0 = 0 ∧ nI 1 = 1 ∧ nI 2 = 2 ∧ nI 3 = 3 ∧ nI 4 = 4 ∧ nI 5 = 5 ∧ nI 6 = 6 ∧ nI 7 = 7 ∧ nI 8 = 8 ∧ nI 9 = 9 ∧ nI 10 = 10 ∧ nI 11 = 11 ∧ nI 12 = 12 := ⟨rfl, rfl, rfl, rfl, rfl, rfl, rfl, rfl, rfl, rfl, rfl, rfl, rfl⟩
theorem nIlit2 : nI 13 = 13 ∧ nI 14 = 14 ∧ nI 15 = 15 ∧ nI 16 = 16 ∧ nI 17 = 17 ∧ nI 18 = 18 ∧ nI 19 = 19 ∧ nI 20 = 20 ∧ nI 21 = 21 ∧ nI 22 = 22 ∧ nI 23 = 23 ∧ nI 24 = 24 := ⟨rfl, rfl, rfl, rfl, rfl, rfl, rfl, rfl, rfl, rfl, rfl, rfl⟩
/-- kinds told by numbers -/
theorem kfn : ∀ k, k < 25 → (fn_Parser_isFunction (nI k) = if 3 ≤ k ∧ k ≤ 6 then 1 else 0) ∧ (fn_Parser_isOperator (nI k) = if 7 ≤ k ∧ k ≤ 11 then 1 else 0) ∧ (fn_Parser_isBinary (nI k) = if 7 ≤ k ∧ k ≤ 12 then 1 else 0) ∧ (fn_Parser_isBinaryOrNegation (nI k) = if 7 ≤ k ∧ k ≤ 13 then 1 else 0)
    ∧ (fn_Parser_startsLink (nI k) = if 14 ≤ k ∧ k ≤ 20 then 1 else 0) ∧ (fn_Parser_startsSum (nI k) = if 14 ≤ k ∧ k ≤ 21 then 1 else 0) ∧ (fn_Parser_startsPower (nI k) = if 1 ≤ k ∧ k ≤ 6 ∨ k = 22 then 1 else 0) := by decide +kernel
theorem nIk {k : Nat} (h : k < 2 ^ 31) (m : Nat) (hm : m < 2 ^ 31) : (nI k = nI m) = (k = m) := propext (nI_inj h hm)
theorem keq {k : Nat} (h : k < 2 ^ 31) : (nI k = 1 ↔ k = 1) ∧ (nI k = 2 ↔ k = 2) ∧ (nI k = 3 ↔ k = 3) ∧ (nI k = 4 ↔ k = 4) ∧ (nI k = 8 ↔ k = 8) ∧ (nI k = 22 ↔ k = 22) ∧ (nI k = 23 ↔ k = 23) ∧ (nI k = 24 ↔ k = 24) ∧ (nI k = 20 ↔ k = 20) ∧ (nI k = 21 ↔ k = 21) ∧ (nI k = 0 ↔ k = 0) :=
  ⟨nI_inj (b := 1) h (by omega), nI_inj (b := 2) h (by omega), nI_inj (b := 3) h (by omega), nI_inj (b := 4) h (by omega), nI_inj (b := 8) h (by omega), nI_inj (b := 22) h (by omega), nI_inj (b := 23) h (by omega), nI_inj (b := 24) h (by omega), nI_inj (b := 20) h (by omega), nI_inj (b := 21) h (by omega), nI_inj (b := 0) h (by omega)⟩
/-- what the class's step says -/
def zsyr (p : Nat) (o : Option (Nat × Nat × Nat × Nat × Nat)) (r : Int32 × Int32 × Int32 × Int32 × Int32 × Int32) : Prop := match o with
  | none => r.1 = 0 ∧ r.2.2.2.2.1 = nI p
  | some s => r = (1, nI s.1, nI s.2.1, nI s.2.2.1, nI s.2.2.2.1, nI s.2.2.2.2)
theorem cp_power (st d l p o k : Nat) (hst : st < 4) (hk : k < 25) (hp : p ≤ 3) : 
    (zsyP st d l p o k = none → (fn_Syntax_takesPower (nI st) (nI d) (nI p) (nI k)).1 = 0 ∧ (fn_Syntax_takesPower (nI st) (nI d) (nI p) (nI k)).2.2.2 = nI p) ∧ (∀ s, zsyP st d l p o k = some s → fn_Syntax_takesPower (nI st) (nI d) (nI p) (nI k) = (1, nI s.1, nI s.2.1, nI s.2.2.2.1) ∧ s.2.2.1 = l ∧ s.2.2.2.2 = o) := by
  obtain ⟨e1, e2, e3, e4, e8, e22, e23, e24, -, -, -⟩ := keq (k := k) (by omega)
  obtain ⟨-, s2, -⟩ := keq (k := st) (by omega)
  obtain ⟨f1, -⟩ := kfn k hk
  have s0 : nI st = 0 ↔ st = 0 := nI_eq0 (by omega)
  have p3 : (3 : Int32) ≤ nI p ↔ 3 ≤ p := nI_lei (a := 3) (by omega) (by omega)
  unfold fn_Syntax_takesPower fn_Syntax_takesPower_b93 zsyP
  simp only [e1, e2, e22, e24, e8, s2, s0, p3, f1, nI_add1]
  by_cases h1 : k = 1
  · subst h1; simp; rfl
  by_cases h2 : k = 2
  · subst h2; simp; rfl
  by_cases h22 : k = 22
  · subst h22; simp; rfl
  by_cases hf : 3 ≤ k ∧ k ≤ 6
  · simp [h1, h2, h22, hf]; exact ⟨rfl, rfl⟩
  by_cases h24 : k = 24
  · subst h24
    by_cases hs : st = 2 <;> by_cases hq : 3 ≤ p
    · simp [hs, hq, Nat.not_lt.mpr hq]
    · simp [hs, hq, Nat.lt_of_not_le hq]
    · simp [hs]
    · simp [hs]
  by_cases h8 : k = 8
  · subst h8
    by_cases hs : st = 0
    · simp [hs]; rfl
    · simp [hs]
  simp [h1, h2, h22, hf, h24, h8]
def zsyf (o : Option (Nat × Nat × Nat × Nat × Nat)) (r : Int32 × Int32 × Int32 × Int32 × Int32) : Prop := match o with
  | none => r.1 = 0
  | some s => r = (1, nI s.1, nI s.2.1, nI s.2.2.1, nI s.2.2.2.2)
theorem zsyF_p {d l p o k : Nat} {s : Nat × Nat × Nat × Nat × Nat} (h : zsyF d l p o k = some s) : s.2.2.2.1 = p := by
  unfold zsyF at h
  repeat' split at h
  all_goals first | (cases h; done) | (cases h; rfl)
theorem cp_follow (d l p o k : Nat) (hk : k < 25) (hd : d < 1000) (hl : l ≤ 4) (ho : o ≤ 1) :
    zwp (fn_Syntax_takesWhatFollows 3 (nI d) (nI l) (nI o) (nI k)) (zsyf (zsyF d l p o k)) := by
  obtain ⟨e1, e2, e3, e4, e8, e22, e23, e24, e20, e21, -⟩ := keq (k := k) (by omega)
  obtain ⟨-, f2, -, -, f3, -, -⟩ := kfn k hk
  have d0 : nI d ≤ 0 ↔ d = 0 := nI_le0 (by omega)
  have o0 : nI o = 0 ↔ o = 0 := nI_eq0 (by omega)
  have l4 : (4 : Int32) < nI (l + 1) ↔ 4 < l + 1 := nI_lti (a := 4) (by omega) (by omega)
  unfold fn_Syntax_takesWhatFollows zsyF
  simp only [f2, d0, o0, e20, e21, e23, nI_add1]
  by_cases h7 : 7 ≤ k ∧ k ≤ 11
  · simp [h7]; exact zwp_some rfl
  by_cases hd0 : d = 0
  · subst hd0
    by_cases ho0 : o = 0
    · subst ho0
      unfold fn_Syntax_takesWhatFollows_b94
      simp only [f3, l4]
      by_cases h20 : k = 20
      · subst h20
        by_cases hl4 : l < 4
        · have : ¬ 4 < l + 1 := by omega
          simp [this, hl4]; exact zwp_some rfl
        · have : 4 < l + 1 := by omega
          simp [this, hl4]; exact zwp_some rfl
      · by_cases h14 : 14 ≤ k ∧ k ≤ 20
        · by_cases hl4 : l < 4
          · have : ¬ 4 < l + 1 := by omega
            simp [this, hl4, h14, h20, h7]; exact zwp_some rfl
          · have : 4 < l + 1 := by omega
            simp [this, hl4, h14, h20, h7]; exact zwp_some rfl
        · have h14' : ¬ (14 ≤ k ∧ k ≤ 20 ∧ l < 4) := fun h => h14 ⟨h.1, h.2.1⟩
          simp only [h14, h14', h20, h7]; simp; exact zwp_some rfl
    · have ho1 : o = 1 := by omega
      subst ho1
      by_cases h21 : k = 21
      · simp [h21]; exact zwp_some rfl
      · simp [h21, h7]; exact zwp_some rfl
  · have hs : nI d - 1 = nI (d - 1) := by
      obtain ⟨e, rfl⟩ : ∃ e, d = e + 1 := ⟨d - 1, by omega⟩
      rw [nI_sub1]; rfl
    rw [hs]
    by_cases h23 : k = 23
    · simp [h23, hd0, Nat.pos_of_ne_zero hd0]; exact zwp_some rfl
    · simp [h23, hd0, Nat.pos_of_ne_zero hd0, h7]; exact zwp_some rfl
theorem cp_takes (s : Nat × Nat × Nat × Nat × Nat) (k : Nat) (hs : zsok s) (hd : s.2.1 < 1000) (hk : k < 25) :
    zwp (fn_Syntax_takes (nI s.1) (nI s.2.1) (nI s.2.2.1) (nI s.2.2.2.1) (nI s.2.2.2.2) (nI k)) (zsyr s.2.2.2.1 (zsy s k)) := by
  obtain ⟨st, d, l, p, o⟩ := s
  obtain ⟨h1, h2, h3, h4⟩ := hs
  simp only at h1 h2 h3 h4 hd ⊢
  obtain ⟨e1, -⟩ := keq (k := k) (by omega)
  obtain ⟨-, -, -, -, -, -, f7⟩ := kfn k hk
  have e3 : nI st = 3 ↔ st = 3 := nI_inj (b := 3) (by omega) (by omega)
  have hB : zsy (st, d, l, p, o) k = zsyP st d l p o k → zwp (fn_Syntax_takes_b20 (nI st) (nI d) (nI l) (nI p) (nI o) (nI k)) (zsyr p (zsy (st, d, l, p, o) k)) := by
    intro e
    rw [e]
    obtain ⟨g1, g2⟩ := cp_power st d l p o k h1 hk h3
    unfold fn_Syntax_takes_b20
    cases hz : zsyP st d l p o k with
    | none =>
      have := g1 hz
      exact zwp_f (by rw [this.1]; decide) (zwp_some this)
    | some s =>
      obtain ⟨g3, g4, g5⟩ := g2 s hz
      rw [g3]
      exact zwp_f (fun h => h (Or.inr rfl)) (zwp_some (by show _ = _; rw [g4, g5]))
  unfold fn_Syntax_takes
  by_cases hst : st = 3
  · subst hst
    refine zwp_t rfl ?_
    have hF : zsy (3, d, l, p, o) k = zsyF d l p o k → zwp (fn_Syntax_takes_b26 3 (nI d) (nI l) (nI p) (nI o) (nI k)) (zsyr p (zsy (3, d, l, p, o) k)) := by
      intro e
      rw [e]
      unfold fn_Syntax_takes_b26
      refine zwp_seq (cp_follow d l p o k hk hd h2 h4) (fun r hr => ?_)
      cases hz : zsyF d l p o k with
      | none =>
        rw [hz] at hr
        have : r.1 = 0 := hr
        exact zwp_f (by rw [this]; decide) (zwp_some ⟨this, rfl⟩)
      | some s =>
        rw [hz] at hr
        have : r = _ := hr
        rw [this]
        exact zwp_f (fun h => h (Or.inr rfl)) (zwp_some (by show _ = _; rw [zsyF_p hz]))
    rw [f7]
    by_cases hp : 1 ≤ k ∧ k ≤ 6 ∨ k = 22
    · rw [if_pos hp]
      refine zwp_f (by decide) ?_
      by_cases hk1 : k = 1
      · subst hk1
        exact zwp_t rfl (hF rfl)
      · refine zwp_f (fun h => hk1 (e1.mp h)) (hB ?_)
        unfold zsy
        rw [if_neg]
        rintro ⟨-, h⟩
        exact h (by omega)
    · rw [if_neg hp]
      refine zwp_t rfl (hF ?_)
      unfold zsy
      rw [if_pos ⟨rfl, by omega⟩]
  · refine zwp_f (fun h => hst (e3.mp h)) (hB ?_)
    unfold zsy
    rw [if_neg (fun h => hst h.1)]
/-! The reference's grammar. -/
theorem rmf_congr {D D' L L' P P' : Int32} (R b k : Int32) (h1 : (D = 0) = (D' = 0)) (h2 : (0 < D) = (0 < D')) (h3 : (L < 4) = (L' < 4)) (h4 : (3 ≤ P) = (3 ≤ P')) :
    fn_Ref_mayFollow D L R P b k = fn_Ref_mayFollow D' L' R P' b k := by
  simp only [fn_Ref_mayFollow, fn_Ref_mayFollow_b16, fn_Ref_mayFollow_b21, fn_Ref_mayFollow_b38, fn_Ref_mayFollow_b43, fn_Ref_mayFollow_b67, fn_Ref_mayFollow_b68, fn_Ref_mayFollow_b102, fn_Ref_mayFollow_b122, fn_Ref_mayFollow_b210, fn_Ref_mayFollow_b215, fn_Ref_mayFollow_b158, h1, h2, h3, h4]
/-- the state after a token of the reference's kind -/
def zrs (b : Nat) : Nat := if b = 1 ∨ b = 2 ∨ b = 11 then 3 else if b = 3 ∨ b = 4 then 2 else if 5 ≤ b ∧ b ≤ 9 then 1 else 0
def zmay (st : Nat) (d0 l4 p3 : Bool) (o k : Nat) : Bool :=
  if st = 3 ∧ ¬ (2 ≤ k ∧ k ≤ 6 ∨ k = 22) then
    (if 7 ≤ k ∧ k ≤ 11 then true else if d0 = false then (if k = 23 then true else false) else if o = 1 then (if k = 21 then true else false) else if 14 ≤ k ∧ k ≤ 20 ∧ l4 = true then true else false)
  else (if k = 1 ∨ k = 2 then true else if k = 22 then true else if 3 ≤ k ∧ k ≤ 6 then true else if k = 24 ∧ st = 2 ∧ p3 = true then true else if k = 8 ∧ st = 0 then true else false)
theorem zmay_ok (s : Nat × Nat × Nat × Nat × Nat) (k : Nat) : (zsy s k).isSome = zmay s.1 (decide (s.2.1 = 0)) (decide (s.2.2.1 < 4)) (decide (s.2.2.2.1 < 3)) s.2.2.2.2 k := by
  obtain ⟨st, d, l, p, o⟩ := s
  unfold zsy zmay zsyF zsyP
  simp only [decide_eq_true_eq, decide_eq_false_iff_not, Nat.pos_iff_ne_zero]
  repeat' split
  all_goals first | rfl | (simp_all; done)
theorem rmf_tab : ∀ b, b < 20 → ∀ k, k < 25 → ∀ d0 l4 p3 : Bool, ∀ o, o < 2 → k = 0 ∨ k = 12 ∨ k = 13 ∨ fn_Ref_mayFollow (if d0 = true then 0 else 1) (if l4 = true then 0 else 4) (nI o) (if p3 = true then 0 else 3) (nI b) (nI (zka k)) = some (if zmay (zrs b) d0 l4 p3 o k = true then 1 else 0) := by decide +kernel
theorem rp_may (b : Nat) (s : Nat × Nat × Nat × Nat × Nat) (k : Nat) (pr : Nat) (hb : b < 20) (hs : zsok s) (hd : s.2.1 < 1000) (hk : k < 25) (hk0 : k ≠ 0 ∧ k ≠ 12 ∧ k ≠ 13) (h1 : s.1 = zrs b) (h2 : s.1 = 2 → pr = s.2.2.2.1) (hpr : pr ≤ 3) :
    fn_Ref_mayFollow (nI s.2.1) (nI s.2.2.1) (nI s.2.2.2.2) (nI pr) (nI b) (nI (zka k)) = some (if (zsy s k).isSome = true then 1 else 0) := by
  obtain ⟨g1, g2, g3, g4⟩ := hs
  have e : (zsy s k).isSome = zmay (zrs b) (decide (s.2.1 = 0)) (decide (s.2.2.1 < 4)) (decide (pr < 3)) s.2.2.2.2 k := by
    rw [zmay_ok, ← h1]
    by_cases h : s.1 = 2
    · rw [h2 h]
    · unfold zmay; simp [h]
  rw [e]
  rcases rmf_tab b hb k hk (decide (s.2.1 = 0)) (decide (s.2.2.1 < 4)) (decide (pr < 3)) s.2.2.2.2 (by omega) with h | h | h | h
  · exact absurd h hk0.1
  · exact absurd h hk0.2.1
  · exact absurd h hk0.2.2
  · rw [← h]
    refine rmf_congr _ _ _ ?_ ?_ ?_ ?_
    · rw [propext (nI_eq0 (d := s.2.1) (by omega))]
      by_cases h : s.2.1 = 0 <;> simp [h]
    · rw [show (0 : Int32) = nI 0 from rfl, propext (nI_lti (a := 0) (b := s.2.1) (by omega) (by omega))]
      by_cases h : s.2.1 = 0
      · rw [h]; decide
      · rw [decide_eq_false h]
        have : 0 < s.2.1 := by omega
        simp only [this]; decide
    · rw [show (4 : Int32) = nI 4 from rfl, propext (nI_lti (a := s.2.2.1) (b := 4) (by omega) (by omega))]
      by_cases h : s.2.2.1 < 4 <;> simp [h] <;> decide
    · rw [show (3 : Int32) = nI 3 from rfl, propext (nI_lei (a := 3) (b := pr) (by omega) (by omega))]
      by_cases h : pr < 3
      · have h' : ¬ 3 ≤ pr := by omega
        rw [decide_eq_true h]; simp only [h']; decide
      · have h' : 3 ≤ pr := by omega
        rw [decide_eq_false h]; simp only [h']; decide
theorem rel_tab : ∀ k, k < 24 → fn_Ref_isRelation (nI k) = some (if 12 ≤ k ∧ k ≤ 18 then 1 else 0) := by decide +kernel
theorem zka_v : ∀ k, k < 25 → (k = 1 → zka k = 1) ∧ (k = 2 → zka k = 2) ∧ (3 ≤ k ∧ k ≤ 6 → zka k = 3) ∧ (7 ≤ k ∧ k ≤ 11 → zka k = k - 2) ∧ (14 ≤ k ∧ k ≤ 21 → zka k = k - 2) ∧ (k = 22 → zka k = 10) ∧ (k = 23 → zka k = 11) ∧ (k = 24 → zka k = 4) := by decide
/-- what a step of the grammar does, by the reference's kinds -/
theorem zsy_eff (st d l p o k pr : Nat) (s' : Nat × Nat × Nat × Nat × Nat) (hs : zsok (st, d, l, p, o)) (hk : k < 25) (h2 : st = 2 → pr = p) (hpr : pr ≤ 3) (hz : zsy (st, d, l, p, o) k = some s') :
    (zka k = 10 ∧ s'.2.1 = d + 1 ∨ zka k = 11 ∧ d = s'.2.1 + 1 ∨ zka k ≠ 10 ∧ zka k ≠ 11 ∧ s'.2.1 = d) ∧ (12 ≤ zka k ∧ zka k ≤ 18 ∧ s'.2.2.1 = l + 1 ∨ ¬ (12 ≤ zka k ∧ zka k ≤ 18) ∧ s'.2.2.1 = l) ∧
    (zka k = 18 ∧ s'.2.2.2.2 = 1 ∨ zka k ≠ 18 ∧ (o = 0 ∨ zka k = 19) ∧ s'.2.2.2.2 = 0 ∨ zka k ≠ 18 ∧ o = 1 ∧ zka k ≠ 19 ∧ s'.2.2.2.2 = 1) ∧ (s'.1 = zrs (zka k)) ∧ zka k < 20 ∧
    (zka k = 4 ∧ pr + 1 ≤ 3 ∧ s'.2.2.2.1 = pr + 1 ∨ zka k = 3 ∧ s'.2.2.2.1 = 0 ∨ zka k ≠ 4 ∧ s'.1 ≠ 2) ∧ zsok s' ∧ s'.2.1 ≤ d + 1 := by
  obtain ⟨v1, v2, v3, v4, v5, v6, v7, v8⟩ := zka_v k hk
  obtain ⟨g1, g2, g3, g4⟩ := hs
  simp only at g1 g2 g3 g4
  unfold zsy zsyF zsyP at hz
  simp only at hz
  unfold zrs zsok
  repeat' split at hz
  all_goals first | (cases hz; done) | skip
  all_goals (cases hz; try dsimp only)
  all_goals (refine ⟨?_, ?_, ?_, ?_, ?_, ?_, ⟨?_, ?_, ?_, ?_⟩, ?_⟩)
  all_goals first | omega | (repeat' split) <;> omega
theorem rp_notes (nt : Nat) (ta : Int32) (s : Nat × Nat × Nat × Nat × Nat) (s' : Nat × Nat × Nat × Nat × Nat) (k pr : Nat) (nk na : Nat → Int32) (hs : zsok s) (hk : k < 25) (h2 : s.1 = 2 → pr = s.2.2.2.1) (hpr : pr ≤ 3) (hz : zsy s k = some s') (hnt : nt < 81) :
    ∃ pr', fn_Ref_notes (nI nt) ta (nI s.2.1) (nI s.2.2.1) (nI s.2.2.2.2) (nI pr) nk na (nI (zka k)) = some (nI (nt + 1), nI s'.2.1, nI s'.2.2.1, nI s'.2.2.2.2, nI pr', upd nk nt (nI (zka k)), upd na nt ta)
      ∧ s'.1 = zrs (zka k) ∧ zka k < 20 ∧ (s'.1 = 2 → pr' = s'.2.2.2.1) ∧ pr' ≤ 3 ∧ zsok s' ∧ s'.2.1 ≤ s.2.1 + 1 := by
  obtain ⟨st, d, l, p, o⟩ := s
  obtain ⟨a1, a2, a3, a4, a5, a6, a7, a8⟩ := zsy_eff st d l p o k pr s' hs hk h2 hpr hz
  obtain ⟨g1, g2, g3, g4⟩ := hs
  simp only at g1 g2 g3 g4 h2 ⊢
  have hlk : zka k < 24 := zka_lt k hk
  have q4 : nI (zka k) = 4 ↔ zka k = 4 := nI_inj (b := 4) (by omega) (by omega)
  have q10 : nI (zka k) = 10 ↔ zka k = 10 := nI_inj (b := 10) (by omega) (by omega)
  have q11 : nI (zka k) = 11 ↔ zka k = 11 := nI_inj (b := 11) (by omega) (by omega)
  have q18 : nI (zka k) = 18 ↔ zka k = 18 := nI_inj (b := 18) (by omega) (by omega)
  have q19 : nI (zka k) = 19 ↔ zka k = 19 := nI_inj (b := 19) (by omega) (by omega)
  have ho : nI o = 0 ↔ o = 0 := nI_eq0 (by omega)
  have hb95 : ∀ (D L pp : Int32) (k1 : Int32), (k1 = 0 ∨ k1 = 1) → fn_Ref_notes_b95 ta (nI nt) D L (nI o) pp nk na (nI (zka k)) k1 = some (nI (nt + 1), D, L, k1, pp, upd nk nt (nI (zka k)), upd na nt ta) := by
    intro D L pp k1 h
    unfold fn_Ref_notes_b95
    rw [if_neg (fun h' => h' h), if_neg (nI_in hnt (by omega)), if_neg (nI_in hnt (by omega)), nI_add1, nI_clamp (by omega)]
  have hb66 : ∀ (D L pp k2 : Int32), fn_Ref_notes_b66 ta (nI nt) D L (nI o) pp nk na (nI (zka k)) L k2 = some (nI (nt + 1), D, L + k2, nI s'.2.2.2.2, pp, upd nk nt (nI (zka k)), upd na nt ta) := by
    intro D L pp k2
    unfold fn_Ref_notes_b66 fn_Ref_notes_b90 fn_Ref_notes_b94
    simp only [hb95 _ _ _ 1 (Or.inr rfl), hb95 _ _ _ 0 (Or.inl rfl), q18, q19, ho]
    rcases a3 with ⟨h1, h3⟩ | ⟨h1, h4 | h4, h3⟩ | ⟨h1, h4, h5, h3⟩
    · rw [if_pos h1, h3]; rfl
    · rw [if_neg h1, if_pos h4, h3]; rfl
    · rw [if_neg h1, h3]; split
      · rfl
      · rfl
    · rw [if_neg h1, if_neg (by omega), if_neg h5, h3]; rfl
  have hb46 : ∀ (D pp : Int32), fn_Ref_notes_b46 ta (nI nt) D (nI l) (nI o) (nI pr) nk na (nI (zka k)) pp = some (nI (nt + 1), D, nI s'.2.2.1, nI s'.2.2.2.2, pp, upd nk nt (nI (zka k)), upd na nt ta) := by
    intro D pp
    unfold fn_Ref_notes_b46
    rw [rel_tab _ hlk, Option.bind_some]
    rcases a2 with ⟨h1, h3, h4⟩ | ⟨h1, h4⟩
    · rw [if_pos (show 12 ≤ zka k ∧ zka k ≤ 18 from ⟨h1, h3⟩), if_neg (by decide), hb66, nI_add1, h4]
    · rw [if_neg h1, if_pos rfl, hb66, Int32.add_zero, h4]
  have hb26 : ∀ (k2 : Int32), fn_Ref_notes_b26 ta (nI nt) (nI d) (nI l) (nI o) (nI pr) nk na (nI (zka k)) (nI d) k2 = some (nI (nt + 1), nI d + k2, nI s'.2.2.1, nI s'.2.2.2.2, nI (if zka k = 4 then pr + 1 else 0), upd nk nt (nI (zka k)), upd na nt ta) := by
    intro k2
    unfold fn_Ref_notes_b26
    simp only [q4, hb46, nI_add1]
    split <;> rfl
  refine ⟨if zka k = 4 then pr + 1 else 0, ?_, a4, a5, ?_, ?_, a7, a8⟩
  · unfold fn_Ref_notes
    simp only [hb26, q10, q11]
    rcases a1 with ⟨h1, h3⟩ | ⟨h1, h3⟩ | ⟨h1, h3, h4⟩
    · rw [if_pos h1, h3, nI_add1]
    · rw [if_neg (by omega), if_pos h1, h3, show nI (s'.2.1 + 1) + -1 = nI (s'.2.1 + 1) - 1 from (Int32.sub_eq_add_neg _ _).symm, nI_sub1]
    · rw [if_neg h1, if_neg h3, h4, Int32.add_zero]
  · intro h
    rcases a6 with ⟨h1, h3, h4⟩ | ⟨h1, h4⟩ | ⟨h1, h4⟩
    · rw [if_pos h1, h4]
    · rw [if_neg (by omega), h4]
    · exact absurd h h4
  · rcases a6 with ⟨h1, h3, h4⟩ | ⟨h1, h4⟩ | ⟨h1, h4⟩
    · rw [if_pos h1]; exact h3
    · rw [if_neg (by omega)]; omega
    · rw [if_neg h1]; omega
/-! The first fault of a text. -/
def zgo : (Nat × Nat × Nat × Nat × Nat) → List (Nat × Nat × Nat) → Option (Nat × Nat × Nat × Nat × Nat)
  | s, [] => some s
  | s, q :: t => match zsy s q.1 with
    | none => none
    | some s' => zgo s' t
/-- the first token that may not follow -/
def zbad : (Nat × Nat × Nat × Nat × Nat) → List (Nat × Nat × Nat) → Option (Nat × Nat × Nat)
  | _, [] => none
  | s, q :: t => match zsy s q.1 with
    | none => some q
    | some s' => zbad s' t
def zfin (s : Nat × Nat × Nat × Nat × Nat) : Prop := s.1 = 3 ∧ s.2.1 = 0 ∧ s.2.2.2.2 = 0
def zs0 : Nat × Nat × Nat × Nat × Nat := (0, 0, 0, 0, 0)
theorem zbad_go {s : Nat × Nat × Nat × Nat × Nat} {l : List (Nat × Nat × Nat)} (h : zbad s l = none) : ∃ s', zgo s l = some s' := by
  induction l generalizing s with
  | nil => exact ⟨s, rfl⟩
  | cons q t ih =>
    unfold zbad at h; unfold zgo
    split at h
    · cases h
    · exact ih h
/-- tokens that the grammar may meet -/
def zkok (q : Nat × Nat × Nat) : Prop := q.1 < 25 ∧ q.1 ≠ 12 ∧ q.1 ≠ 13
theorem zpair_k : ∀ a, a < 127 → ∀ b, b < 127 → zpair a b ≠ 12 ∧ zpair a b ≠ 13 := by decide +kernel
theorem zsign_k : ∀ a, a < 127 → zsign a ≠ 12 ∧ zsign a ≠ 13 := by decide +kernel
theorem ztok_k {c : Nat} {t : List Nat} (h : ∀ x ∈ c :: t, x < 127) : (ztok (c :: t)).1 < 25 ∧ (ztok (c :: t)).1 ≠ 12 ∧ (ztok (c :: t)).1 ≠ 13 := by
  have hc := h c (by simp)
  have ht : t.getD 0 0 < 127 := by
    cases t with
    | nil => exact (by decide : 0 < 127)
    | cons d u => exact h d (by simp)
  by_cases h0 : zdg c = true
  · rw [ztok_d h0]; dsimp only; split <;> omega
  · by_cases h1 : 97 ≤ c ∧ c ≤ 122
    · by_cases h2 : zfun (c :: t) = 0
      · rw [ztok_v h0 h1 h2]; dsimp only; omega
      · rw [ztok_f h0 h1 h2]; have := (zfun_lt (c :: t)).1; dsimp only; omega
    · by_cases h2 : zpair c (t.getD 0 0) = 0
      · rw [ztok_s h0 h1 h2]; exact ⟨(zsign_ok c hc).2, zsign_k c hc⟩
      · rw [ztok_p h0 h1 h2]; exact ⟨(zpair_ok c hc _ ht).2, zpair_k c hc _ ht⟩
theorem ztoks_k : ∀ (f p : Nat) (s : List Nat), (∀ c ∈ s, c < 127) → ∀ q ∈ ztoks f p s, zkok q
  | 0, _, _, _ => by simp [ztoks]
  | f + 1, p, [], _ => by simp [ztoks]
  | f + 1, p, c :: t, h => by
    unfold ztoks
    split
    · exact ztoks_k f (p + 1) t (fun x hx => h x (by simp [hx]))
    · intro q hq
      rcases List.mem_cons.mp hq with rfl | hq
      · exact ztok_k h
      · exact ztoks_k f _ _ (fun x hx => h x (List.mem_of_mem_drop hx)) q hq
theorem zsy_ok {s s' : Nat × Nat × Nat × Nat × Nat} {k : Nat} (hs : zsok s) (hk : k < 25) (h : zsy s k = some s') : zsok s' ∧ s'.2.1 ≤ s.2.1 + 1 := by
  obtain ⟨st, d, l, p, o⟩ := s
  obtain ⟨-, -, -, -, -, -, h1, h2⟩ := zsy_eff st d l p o k p s' hs hk (fun _ => rfl) hs.2.2.1 h
  exact ⟨h1, h2⟩
section QC
variable {qk : Nat → Int32} {l : List (Nat × Nat × Nat)}
theorem sp_kind {c : Int32} {k s d : Nat → Int32} (h : zqs c k s d l) (hl : l.length ≤ 80) {i : Nat} {q : Nat × Nat × Nat} (hi : l[i]? = some q) : fn_Tokens_kindOf c k (nI i) = some (nI q.1) := by
  obtain ⟨rfl, h1, -, -⟩ := h
  have hlt := (List.getElem?_eq_some_iff.mp hi).1
  unfold fn_Tokens_kindOf
  rw [if_neg (nI_pos (by omega)), if_neg (nI_ge hlt (by omega)), if_neg (nI_in (by omega) (by omega)), nI_clamp (by omega), h1 i q hi]
theorem sp_start {c : Int32} {k s d : Nat → Int32} (h : zqs c k s d l) (hl : l.length ≤ 80) {i : Nat} {q : Nat × Nat × Nat} (hi : l[i]? = some q) : fn_Tokens_startOf c s (nI i) = some (nI q.2.2) := by
  obtain ⟨rfl, -, -, h1⟩ := h
  have hlt := (List.getElem?_eq_some_iff.mp hi).1
  unfold fn_Tokens_startOf
  rw [if_neg (nI_pos (by omega)), if_neg (nI_ge hlt (by omega)), if_neg (nI_in (by omega) (by omega)), nI_clamp (by omega), h1 i q hi]
theorem sp_detail {c : Int32} {k s d : Nat → Int32} (h : zqs c k s d l) (hl : l.length ≤ 80) {i : Nat} {q : Nat × Nat × Nat} (hi : l[i]? = some q) : fn_Tokens_detailOf c d (nI i) = some (nI q.2.1) := by
  obtain ⟨rfl, -, h1, -⟩ := h
  have hlt := (List.getElem?_eq_some_iff.mp hi).1
  unfold fn_Tokens_detailOf
  rw [if_neg (nI_pos (by omega)), if_neg (nI_ge hlt (by omega)), if_neg (nI_in (by omega) (by omega)), nI_clamp (by omega), h1 i q hi]
/-- what firstFault answers -/
def zffr (l : List (Nat × Nat × Nat)) (s : Nat × Nat × Nat × Nat × Nat) (t : List (Nat × Nat × Nat)) (r : Int32) : Prop :=
  (∀ q, zbad s t = some q → ∃ j, l[j]? = some q ∧ r = nI j) ∧ (∀ s', zbad s t = none → zgo s t = some s' → (zfin s' → r = -1) ∧ (¬ zfin s' → r = nI l.length))
theorem sp_ff {c : Int32} {k s d : Nat → Int32} (h : zqs c k s d l) (hl : l.length ≤ 80) (hk : ∀ q ∈ l, zkok q) : ∀ (n : Nat) (t : List (Nat × Nat × Nat)) (i : Nat) (σ : Nat × Nat × Nat × Nat × Nat),
    l.drop i = t → i ≤ l.length → t.length < n → zsok σ → σ.2.1 ≤ i →
    zwp (fn_Syntax_firstFault_L22 c k n (nI σ.1) (nI σ.2.1) (nI σ.2.2.1) (nI σ.2.2.2.1) (nI σ.2.2.2.2) (nI i)) (fun r => zffr l σ t r.1 ∧ ∃ p', r.2.2.2.2.1 = nI p' ∧ p' ≤ 3)
  | 0, _, _, _, _, _, h, _, _ => absurd h (Nat.not_lt_zero _)
  | n + 1, t, i, σ, ht, hi, hn, hs, hd => by
    unfold fn_Syntax_firstFault_L22
    have hc := h.1
    simp only [fn_Tokens_size]
    cases t with
    | nil =>
      have h9 : l.length ≤ i := List.drop_eq_nil_iff.mp ht
      refine zwp_t (by rw [hc]; exact nI_le h9 (by omega)) ?_
      have e3 : nI σ.1 = 3 ↔ σ.1 = 3 := nI_inj (b := 3) (by have := hs.1; omega) (by omega)
      have e0 : nI σ.2.1 = 0 ↔ σ.2.1 = 0 := nI_eq0 (by omega)
      have eo : nI σ.2.2.2.2 = 0 ↔ σ.2.2.2.2 = 0 := nI_eq0 (by have := hs.2.2.2; omega)
      have hpr : ∃ p', nI σ.2.2.2.1 = nI p' ∧ p' ≤ 3 := ⟨_, rfl, hs.2.2.1⟩
      have hno : ¬ zfin σ → zffr l σ [] c := fun hf => ⟨fun q h => (by cases h), fun s' _ h => (by cases h; exact ⟨fun h => absurd h hf, fun _ => hc⟩)⟩
      unfold fn_Syntax_firstFault_b76
      refine zwp_ite (fun h1 => ?_) (fun h1 => zwp_some ⟨hno fun hf => h1 (e3.mpr hf.1), hpr⟩)
      refine zwp_ite (fun h2 => ?_) (fun h2 => zwp_some ⟨hno fun hf => h2 (e0.mpr hf.2.1), hpr⟩)
      refine zwp_ite (fun h3 => zwp_some ?_) (fun h3 => zwp_some ⟨hno fun hf => h3 (eo.mpr hf.2.2), hpr⟩)
      exact ⟨⟨fun q h => (by cases h), fun s' _ h => (by cases h; exact ⟨fun _ => rfl, fun h => absurd ⟨e3.mp h1, e0.mp h2, eo.mp h3⟩ h⟩)⟩, hpr⟩
    | cons q t =>
      have hlt : i < l.length := by
        rcases Nat.lt_or_ge i l.length with h1 | h1
        · exact h1
        · rw [List.drop_eq_nil_of_le h1] at ht; cases ht
      have hq : l[i]? = some q := by
        have := congrArg (fun l => l[0]?) ht
        simpa [List.getElem?_drop] using this
      have hkq := hk q (List.mem_of_getElem? hq)
      refine zwp_f (by rw [hc]; exact nI_ge hlt (by omega)) ?_
      rw [sp_kind h hl hq, Option.bind_some]
      refine zwp_seq (cp_takes σ q.1 hs (by omega) hkq.1) (fun r hr => ?_)
      cases hz : zsy σ q.1 with
      | none =>
        rw [hz] at hr
        have hr : r.1 = 0 ∧ r.2.2.2.2.1 = nI σ.2.2.2.1 := hr
        refine zwp_t hr.1 (zwp_some ⟨⟨fun q' h => ?_, fun s' h => ?_⟩, _, hr.2, hs.2.2.1⟩)
        · rw [zbad, hz] at h; cases h; exact ⟨i, hq, rfl⟩
        · rw [zbad, hz] at h; cases h
      | some s' =>
        rw [hz] at hr
        have hr : r = _ := hr
        rw [hr]
        obtain ⟨g1, g2⟩ := zsy_ok hs hkq.1 hz
        refine zwp_f (by show ¬ (1 : Int32) = 0; decide) ?_
        rw [nI_add1]
        refine zwp_mono (sp_ff h hl hk n t (i + 1) s' (by rw [← List.drop_drop, ht]; rfl) hlt (by simp at hn; omega) g1 (by omega)) (fun r h => ?_)
        unfold zffr at h ⊢
        rw [zbad, zgo, hz]; exact h
/-- states that differ in primes that nobody counts -/
def zeqp (s t : Nat × Nat × Nat × Nat × Nat) : Prop := s.1 = t.1 ∧ s.2.1 = t.2.1 ∧ s.2.2.1 = t.2.2.1 ∧ s.2.2.2.2 = t.2.2.2.2 ∧ (s.1 = 2 → s.2.2.2.1 = t.2.2.2.1)
theorem zeqp_step {s t : Nat × Nat × Nat × Nat × Nat} (h : zeqp s t) (k : Nat) : (zsy s k = none ∧ zsy t k = none) ∨ ∃ a b, zsy s k = some a ∧ zsy t k = some b ∧ zeqp a b := by
  obtain ⟨st, d, l, p, o⟩ := s
  obtain ⟨st', d', l', p', o'⟩ := t
  obtain ⟨h1, h2, h3, h4, h5⟩ := h
  dsimp only at h1 h2 h3 h4 h5
  subst h1; subst h2; subst h3; subst h4
  unfold zsy zsyF zsyP
  dsimp only
  by_cases h2 : st = 2
  · have := h5 h2
    subst this
    cases h9 : (if st = 3 ∧ ¬ (2 ≤ k ∧ k ≤ 6 ∨ k = 22) then zsyF d l p o k else zsyP st d l p o k) with
    | none => left; unfold zsyF zsyP at h9; exact ⟨h9, h9⟩
    | some a => right; unfold zsyF zsyP at h9; exact ⟨a, a, h9, h9, rfl, rfl, rfl, rfl, fun _ => rfl⟩
  · repeat' split
    all_goals first
      | (left; exact ⟨rfl, rfl⟩)
      | (right; exact ⟨_, _, rfl, rfl, rfl, rfl, rfl, rfl, fun h => by first | rfl | (dsimp only at h; omega)⟩)
      | (exfalso; omega)
theorem zeqp_run {s t : Nat × Nat × Nat × Nat × Nat} (h : zeqp s t) (l : List (Nat × Nat × Nat)) : zbad s l = zbad t l ∧ ∀ a, zgo s l = some a → ∃ b, zgo t l = some b ∧ zeqp a b := by
  induction l generalizing s t with
  | nil => exact ⟨rfl, fun a ha => by cases ha; exact ⟨t, rfl, h⟩⟩
  | cons q l ih =>
    unfold zbad zgo
    rcases zeqp_step h q.1 with ⟨h1, h2⟩ | ⟨a, b, h1, h2, h3⟩
    · rw [h1, h2]; exact ⟨rfl, fun a ha => by cases ha⟩
    · rw [h1, h2]; exact ih h3
theorem zffr_p {s t : Nat × Nat × Nat × Nat × Nat} (h : zeqp s t) {l m : List (Nat × Nat × Nat)} {r : Int32} (hr : zffr m s l r) : zffr m t l r := by
  have h' : zeqp t s := ⟨h.1.symm, h.2.1.symm, h.2.2.1.symm, h.2.2.2.1.symm, fun e => (h.2.2.2.2 (h.1.trans e)).symm⟩
  obtain ⟨g1, g2⟩ := zeqp_run h l
  obtain ⟨-, g4⟩ := zeqp_run h' l
  refine ⟨fun q hq => hr.1 q (g1.trans hq), fun s' hb hg => ?_⟩
  obtain ⟨b, hb1, hb2⟩ := g4 s' hg
  have := hr.2 b (g1.trans hb) hb1
  unfold zfin at this ⊢
  rw [← hb2.1, ← hb2.2.1, ← hb2.2.2.2.1] at this
  exact this
theorem sp_fault {c : Int32} {k s d : Nat → Int32} (h : zqs c k s d l) (hl : l.length ≤ 80) (hk : ∀ q ∈ l, zkok q) (a b e : Int32) (p : Nat) (hp : p ≤ 3) (o : Int32) :
    zwp (fn_Syntax_firstFault a b e (nI p) o c k) (fun r => zffr l zs0 l r.1 ∧ ∃ p', r.2.2.2.2.1 = nI p' ∧ p' ≤ 3) := by
  unfold fn_Syntax_firstFault
  refine zwp_mono (sp_ff h hl hk zFU l 0 (0, 0, 0, p, 0) rfl (Nat.zero_le _) (Nat.lt_of_le_of_lt hl (by decide)) ⟨show (0 : Nat) < 4 by omega, show (0 : Nat) ≤ 4 by omega, hp, show (0 : Nat) ≤ 1 by omega⟩ (Nat.le_refl _)) (fun r hr => ⟨zffr_p (s := (0, 0, 0, p, 0)) (t := zs0) ⟨rfl, rfl, rfl, rfl, fun h => (by cases h)⟩ hr.1, hr.2⟩)
/-- where a text has its first fault: none where it is a formula -/
def zerr (tx : List Nat) : Option Nat := match zbad zs0 (zTK tx) with
  | some q => some q.2.2
  | none => match zgo zs0 (zTK tx) with
    | some s => if s.1 = 3 ∧ s.2.1 = 0 ∧ s.2.2.2.2 = 0 then none else some tx.length
    | none => none
end QC
/-! The reference checks a text. -/
section RC
variable {ch : Nat → Int32} {tx : List Nat}
theorem zka_inj0 : ∀ k, k < 25 → (zka k = 21 ↔ k = 0) := by decide
theorem zsy0 (s : Nat × Nat × Nat × Nat × Nat) : zsy s 0 = none := by
  unfold zsy zsyF zsyP
  repeat' split
  all_goals first | rfl | (exfalso; omega)
theorem zsy_kinds {s s' : Nat × Nat × Nat × Nat × Nat} {k : Nat} (h : zsy s k = some s') : k ≠ 0 := fun e => by subst e; rw [zsy0] at h; cases h
theorem rp_token (hx : ztx tx) (hw : zrw ch nI tx) (p c : Nat) (t : List Nat) (hs : tx.drop p = c :: t) (tk ta ah : Int32) :
    zwp (fn_Ref_read (nI tx.length) tk ta ah ch (nI p)) (fun r => r.1 = nI (zka (ztok (c :: t)).1) ∧ ((ztok (c :: t)).1 ≠ 0 → r.2.1 = nI (zaa (ztok (c :: t)).1 (ztok (c :: t)).2.1)) ∧ r.2.2 = nI (p + (ztok (c :: t)).2.2)) := by
  have hlen := hx.1
  obtain ⟨h1, h2, h3⟩ := drop_cons hs
  have hc := hx.2 c (mem_drop hs)
  unfold fn_Ref_read
  rw [rp_at hx hw p (by omega), h2, Option.bind_some]
  by_cases hd : zdg c = true
  · refine zwp_f (fun h => (rin_dg c hc.2).mp h hd) ?_
    rw [ztok_d hd]
    refine zwp_mono (rp_number hx hw tk p zFU (c :: t) 0 0 0 (nI p + 1) hs (by have := congrArg List.length hs; rw [List.length_drop] at this; rw [← this]; exact Nat.lt_of_le_of_lt (Nat.sub_le _ _) (Nat.lt_of_le_of_lt hlen (by decide))) (by omega) (fun _ => rfl)) (fun r hr => ?_)
    rw [Nat.zero_add] at hr
    obtain ⟨g1, g2, g3⟩ := hr
    dsimp only
    by_cases h6 : 6 < zrun (c :: t)
    · rw [if_pos h6] at g1 ⊢
      exact ⟨g1, fun h => absurd rfl h, g3⟩
    · rw [if_neg h6] at g1 ⊢
      exact ⟨g1, fun _ => g2 (by omega), g3⟩
  · refine zwp_t ((rin_dg c hc.2).mpr hd) ?_
    by_cases h97 : 97 ≤ c ∧ c ≤ 122
    · refine zwp_f (fun h => (rin_le c hc.2).mp h h97) ?_
      rw [rp_fun hx hw p (by omega), hs, Option.bind_some]
      unfold fn_Ref_read_b148 fn_Ref_read_b166
      by_cases h0 : zfun (c :: t) = 0
      · rw [if_pos h0, ztok_v hd h97 h0]
        rw [zsub97 h97.1, nI_add1]
        exact zwp_t rfl (zwp_t rfl (zwp_t rfl (zwp_some ⟨rfl, fun _ => rfl, rfl⟩)))
      · rw [if_neg h0, ztok_f hd h97 h0]
        have hz := zfun_lt (c :: t)
        have hn : ¬ nI (zfun (c :: t) - 3) = -3 := nI_ne_neg (by omega) (by decide)
        refine zwp_f hn (zwp_f hn (zwp_f hn (zwp_some ⟨?_, fun _ => ?_, ?_⟩)))
        · have : ∀ k, k < 7 → 3 ≤ k → (3 : Int32) = nI (zka k) := by decide
          exact this _ hz.1 (hz.2 h0).1
        · unfold zaa; dsimp only
          rw [if_pos ⟨(hz.2 h0).1, by omega⟩]
        · show nI p + 3 = nI (p + 3)
          rw [show (3 : Int32) = nI 3 from rfl, nI_add]
    · refine zwp_t ((rin_le c hc.2).mpr h97) ?_
      rw [nI_add1, rp_at hx hw (p + 1) (by omega), Option.bind_some]
      have e : t.getD 0 0 = tx.getD (p + 1) 0 := by rw [← h3, getD_drop]
      have hlt := zgetD_lt hx (p + 1)
      rw [← e] at hlt ⊢
      rw [rsign_ok c hc.2 _ hlt]
      unfold fn_Ref_read_b242 fn_Ref_read_b247
      have hq : ∀ (m k : Nat), k < 25 → m < 100 → (nI (zka k) = nI m ↔ zka k = m) := fun m k hk hm => nI_inj (by have := zka_lt k hk; omega) (by omega)
      by_cases h0 : zpair c (t.getD 0 0) = 0
      · rw [if_pos h0, ztok_s hd h97 h0]
        have hk := (zsign_ok c hc.2).2
        obtain ⟨a1, a2, a3, a4⟩ := rsign_1 c hc.2
        refine zwp_f (fun h => a1 ((hq 15 _ hk (by omega)).mp h)) (zwp_f (fun h => a2 ((hq 16 _ hk (by omega)).mp h)) (zwp_f (fun h => a3 ((hq 17 _ hk (by omega)).mp h)) (zwp_f (fun h => a4 ((hq 19 _ hk (by omega)).mp h)) (zwp_t rfl (zwp_some ⟨rfl, fun _ => ?_, by rw [nI_add1]⟩)))))
        have : ∀ a, a < 127 → zsign a ≠ 0 → (0 : Int32) = nI (zaa (zsign a) 0) := by decide +kernel
        dsimp only
        rcases Decidable.em (zsign c = 0) with h | h
        · rw [h]; rfl
        · exact this c hc.2 h
      · rw [if_neg h0, ztok_p hd h97 h0]
        have hk := (zpair_ok c hc.2 _ hlt).2
        have hA : (0 : Int32) = nI (zaa (zpair c (t.getD 0 0)) 0) := by
          have : ∀ k, k < 25 → zka k = 15 ∨ zka k = 16 ∨ zka k = 17 ∨ zka k = 19 → (0 : Int32) = nI (zaa k 0) := by decide
          exact this _ hk ((rsign_2 c hc.2 _ hlt).resolve_left h0)
        have hP : ∀ u v w : Int32, u = nI (zka (zpair c (t.getD 0 0))) → v = 0 → w = nI p + 2 → zwp (some (u, v, w)) (fun r : Int32 × Int32 × Int32 => r.1 = nI (zka (zpair c (t.getD 0 0))) ∧ (zpair c (t.getD 0 0) ≠ 0 → r.2.1 = nI (zaa (zpair c (t.getD 0 0)) 0)) ∧ r.2.2 = nI (p + 2)) := by
          rintro u v w rfl rfl rfl
          exact zwp_some ⟨rfl, fun _ => hA, by show nI p + 2 = _; rw [show (2 : Int32) = nI 2 from rfl, nI_add]⟩
        have h10 : ¬ (1 : Int32) = 0 := by decide
        rcases (rsign_2 c hc.2 _ hlt).resolve_left h0 with h | h | h | h
        · exact zwp_t ((hq 15 _ hk (by omega)).mpr h) (zwp_f h10 (hP _ _ _ rfl rfl rfl))
        · exact zwp_f (fun h' => by have := (hq 15 _ hk (by omega)).mp h'; omega) (zwp_t ((hq 16 _ hk (by omega)).mpr h) (zwp_f h10 (hP _ _ _ rfl rfl rfl)))
        · exact zwp_f (fun h' => by have := (hq 15 _ hk (by omega)).mp h'; omega) (zwp_f (fun h' => by have := (hq 16 _ hk (by omega)).mp h'; omega) (zwp_t ((hq 17 _ hk (by omega)).mpr h) (zwp_f h10 (hP _ _ _ rfl rfl rfl))))
        · exact zwp_f (fun h' => by have := (hq 15 _ hk (by omega)).mp h'; omega) (zwp_f (fun h' => by have := (hq 16 _ hk (by omega)).mp h'; omega) (zwp_f (fun h' => by have := (hq 17 _ hk (by omega)).mp h'; omega) (zwp_t ((hq 19 _ hk (by omega)).mpr h) (zwp_f h10 (hP _ _ _ rfl rfl rfl)))))
/-- the reference's tokens hold l -/
def zqr (k a : Nat → Int32) (l : List (Nat × Nat × Nat)) : Prop := zrw k (fun q => nI (zka q.1)) l ∧ zrw a (fun q => nI (zaa q.1 q.2.1)) l
/-- what check answers -/
def zckr (tx : List Nat) (s : Nat × Nat × Nat × Nat × Nat) (l rest : List (Nat × Nat × Nat)) (r : Int32 × Int32 × Int32 × Int32 × Int32 × Int32 × Int32 × Int32 × Int32 × (Nat → Int32) × (Nat → Int32)) : Prop :=
  (∀ q, zbad s rest = some q → r.1 = nI q.2.2) ∧ (∀ s', zbad s rest = none → zgo s rest = some s' → (zfin s' → r.1 = -3 ∧ r.2.1 = nI l.length ∧ r.2.2.2.2.2.2.1 = nI s'.2.2.1 ∧ zqr r.2.2.2.2.2.2.2.2.2.1 r.2.2.2.2.2.2.2.2.2.2 l ∧ r.2.2.2.2.2.2.2.2.2.1 l.length = 20) ∧ (¬ zfin s' → r.1 = nI tx.length))
theorem zrs_3 (b : Nat) : zrs b = 3 ↔ (b = 1 ∨ b = 2 ∨ b = 11) := by
  unfold zrs
  constructor
  · intro h; repeat' split at h
    all_goals first | assumption | (exfalso; omega)
  · intro h; rw [if_pos h]
theorem rp_check (hx : ztx tx) (hw : zrw ch nI tx) (l : List (Nat × Nat × Nat)) (hl : l.length ≤ 80) (hkk : ∀ q ∈ l, zkok q) : ∀ (n p f nt b pr : Nat) (σ : Nat × Nat × Nat × Nat × Nat) (pre rest : List (Nat × Nat × Nat)) (tk ta ah : Int32) (nk na : Nat → Int32),
    tx.length - p < n → p ≤ tx.length → tx.length - p ≤ f → rest = ztoks f p (tx.drop p) → l = pre ++ rest → nt = pre.length → zqr nk na pre → b < 20 → σ.1 = zrs b → (σ.1 = 2 → pr = σ.2.2.2.1) → pr ≤ 3 → zsok σ → σ.2.1 ≤ nt →
    zwp (fn_Ref_check_L29 (nI tx.length) ch n (nI nt) tk ta ah (nI σ.2.1) (nI σ.2.2.1) (nI σ.2.2.2.2) (nI pr) nk na (nI b) (nI p)) (zckr tx σ l rest)
  | 0, _, _, _, _, _, _, _, _, _, _, _, _, _, h, _, _, _, _, _, _, _, _, _, _, _, _ => absurd h (Nat.not_lt_zero _)
  | n + 1, p, f, nt, b, pr, σ, pre, rest, tk, ta, ah, nk, na, hn, hp, hf, hr, hlr, hnt, hq, hb, h1, h2, hpr, hs, hdep => by
    have hlen := hx.1
    have hplen : pre.length ≤ 80 := by rw [hlr, List.length_append] at hl; omega
    unfold fn_Ref_check_L29
    rw [rp_at hx hw p (by omega), Option.bind_some]
    cases hsx : tx.drop p with
    | nil =>
      have h9 := drop_nil hsx
      rw [hsx] at hr
      have hr0 : rest = [] := by rw [hr]; cases f <;> rfl
      subst hr0
      rw [List.append_nil] at hlr
      subst hlr
      have hg : tx.getD p 0 = 0 := by rw [List.getD, List.getElem?_eq_none (by omega), Option.getD_none]
      rw [hg]
      refine zwp_f (by decide) (zwp_f (nI_nlt (by omega) (by omega)) (zwp_f (by rw [hnt]; exact nI_in (by omega) (by omega)) ?_))
      have e0 : nI σ.2.1 = 0 ↔ σ.2.1 = 0 := nI_eq0 (by omega)
      have eo : nI σ.2.2.2.2 = 0 ↔ σ.2.2.2.2 = 0 := nI_eq0 (by have := hs.2.2.2; omega)
      have hno : ∀ r : Int32 × Int32 × Int32 × Int32 × Int32 × Int32 × Int32 × Int32 × Int32 × (Nat → Int32) × (Nat → Int32), ¬ zfin σ → r.1 = nI tx.length → zckr tx σ l [] r := fun r hf hr => ⟨fun q h => (by cases h), fun s' _ h => (by cases h; exact ⟨fun h => absurd h hf, fun _ => hr⟩)⟩
      have h132 : zrs b = 3 → zwp (fn_Ref_check_b132 (nI tx.length) ch (nI nt) tk ta ah (nI σ.2.1) (nI σ.2.2.1) (nI σ.2.2.2.2) (nI pr) (upd nk (nI nt).toNatClampNeg 20) na) (zckr tx σ l []) := by
        intro h3
        unfold fn_Ref_check_b132 fn_Ref_check_b137
        refine zwp_f (by decide) (zwp_ite (fun g1 => zwp_ite (fun g2 => zwp_some ?_) (fun g2 => zwp_some (hno _ (fun hf => g2 (eo.mpr hf.2.2)) rfl))) (fun g1 => zwp_some (hno _ (fun hf => g1 (e0.mpr hf.2.1)) rfl)))
        have hfin : zfin σ := ⟨h1.trans h3, e0.mp g1, eo.mp g2⟩
        refine ⟨fun q h => (by cases h), fun s' _ h => (by
          cases h
          refine ⟨fun _ => ⟨rfl, by rw [hnt], rfl, ⟨?_, hq.2⟩, ?_⟩, fun h => absurd hfin h⟩
          · show zrw (upd nk (nI nt).toNatClampNeg 20) _ l
            rw [nI_clamp (by omega), hnt]
            intro j a hj
            have := (List.getElem?_eq_some_iff.mp hj).1
            rw [upd_ne (by omega)]; exact hq.1 j a hj
          · show upd nk (nI nt).toNatClampNeg 20 l.length = 20
            rw [nI_clamp (by omega), hnt, upd_at])⟩
      have eb : ∀ m, m < 100 → (nI b = nI m ↔ b = m) := fun m hm => nI_inj (by omega) (by omega)
      refine zwp_ite (fun g => h132 ((zrs_3 b).mpr (Or.inl ((eb 1 (by omega)).mp g)))) (fun g1 => zwp_ite (fun g => h132 ((zrs_3 b).mpr (Or.inr (Or.inl ((eb 2 (by omega)).mp g))))) (fun g2 => zwp_ite (fun g => h132 ((zrs_3 b).mpr (Or.inr (Or.inr ((eb 11 (by omega)).mp g))))) (fun g3 => ?_)))
      unfold fn_Ref_check_b137
      refine zwp_t rfl (zwp_some (hno _ (fun hf => ?_) rfl))
      rcases (zrs_3 b).mp (h1.symm.trans hf.1) with h | h | h
      · exact g1 ((eb 1 (by omega)).mpr h)
      · exact g2 ((eb 2 (by omega)).mpr h)
      · exact g3 ((eb 11 (by omega)).mpr h)
    | cons c t =>
      obtain ⟨a1, a2, a3⟩ := drop_cons hsx
      have hc := hx.2 c (mem_drop hsx)
      have hft : (c :: t).length ≤ f := by rw [← hsx, List.length_drop]; exact hf
      cases f with
      | zero => simp at hft
      | succ f =>
        rw [a2]
        rw [hsx] at hr
        by_cases h32 : c = 32
        · rw [ztoks, if_pos h32] at hr
          refine zwp_t (by rw [h32]; rfl) ?_
          rw [nI_add1]
          exact rp_check hx hw l hl hkk n (p + 1) f nt b pr σ pre rest tk ta ah nk na (by omega) (by omega) (by omega) (by rw [a3]; exact hr) hlr hnt hq hb h1 h2 hpr hs hdep
        · rw [ztoks, if_neg h32] at hr
          refine zwp_f (fun e => h32 ((nI_inj (b := 32) (by omega) (by omega)).mp e)) (zwp_t (nI_lt a1 (by omega)) ?_)
          refine zwp_seq (rp_token hx hw p c t hsx tk ta ah) (fun r hr' => ?_)
          obtain ⟨r1, r2, r3⟩ := r
          obtain ⟨q1, q2, q3⟩ := hr'
          dsimp only at q1 q2 q3 ⊢
          have hmem : ((ztok (c :: t)).1, (ztok (c :: t)).2.1, p) ∈ l := by rw [hlr, hr]; simp
          have hk := hkk _ hmem
          have hk1 : (ztok (c :: t)).1 < 25 := hk.1
          have hw2 := ztok_w (t := t) hc.2
          have hlt : (c :: t).length = tx.length - p := by rw [← hsx, List.length_drop]
          have hprlt : pre.length + 1 ≤ 80 := by rw [hlr, hr, List.length_append, List.length_cons] at hl; omega
          have hbad : zsy σ (ztok (c :: t)).1 = none → ∀ r : Int32 × Int32 × Int32 × Int32 × Int32 × Int32 × Int32 × Int32 × Int32 × (Nat → Int32) × (Nat → Int32), r.1 = nI p → zckr tx σ l rest r := by
            intro hz r e
            rw [hr]
            refine ⟨fun q h => ?_, fun s' h => ?_⟩
            · rw [zbad, hz] at h; cases h; exact e
            · rw [zbad, hz] at h; cases h
          rw [q1]
          by_cases hk0 : (ztok (c :: t)).1 = 0
          · refine zwp_t (by rw [hk0]; rfl) (zwp_some (hbad (by rw [hk0]; exact zsy0 σ) _ rfl))
          · refine zwp_f (fun e => hk0 ((zka_inj0 _ hk1).mp ((nI_inj (b := 21) (by have := zka_lt _ hk1; omega) (by omega)).mp e))) ?_
            rw [rp_may b σ _ pr hb hs (by omega) hk1 ⟨hk0, hk.2.1, hk.2.2⟩ h1 h2 hpr, Option.bind_some]
            cases hz : zsy σ (ztok (c :: t)).1 with
            | none => exact zwp_t (by simp) (zwp_some (hbad hz _ rfl))
            | some s' =>
              refine zwp_f (by simp) ?_
              obtain ⟨pr', e1, e2, e3, e4, e5, e6, e7⟩ := rp_notes nt r2 σ s' _ pr nk na hs hk1 h2 hpr hz (by omega)
              rw [e1, Option.bind_some, q3]
              refine zwp_mono (rp_check hx hw l hl hkk n (p + (ztok (c :: t)).2.2) f (nt + 1) (zka (ztok (c :: t)).1) pr' s' (pre ++ [((ztok (c :: t)).1, (ztok (c :: t)).2.1, p)]) (ztoks f (p + (ztok (c :: t)).2.2) ((c :: t).drop (ztok (c :: t)).2.2)) _ _ _ _ _
                (by omega) (by omega) (by omega) (by rw [← List.drop_drop, hsx]) (by rw [hlr, hr, List.append_assoc]; rfl) (by rw [List.length_append, hnt]; rfl) ?_ e3 e2 e4 e5 e6 (by omega)) (fun r h => ?_)
              · rw [hnt, q2 hk0]
                exact ⟨zrw_push hq.1 rfl, zrw_push hq.2 rfl⟩
              · rw [hr]
                unfold zckr at h ⊢
                rw [zbad, zgo, hz]; exact h
end RC
