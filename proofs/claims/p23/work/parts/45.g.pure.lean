/-! One call on both sides. -/
theorem zw2_0 {α β γ : Type} {x : Option α} {y : Option β} {R : α → β → Prop} {G : α → β → Option γ} {P : γ → Prop} (h : zw2 x y R) (k : ∀ a b, R a b → zwp (G a b) P) : zwp (x.bind fun a => y.bind fun b => G a b) P := by
  obtain ⟨a, b, rfl, rfl, hr⟩ := h
  exact k a b hr
theorem zw2_1 {α β γ : Type} {x : Option α} {y : Option β} {R : α → β → Prop} {c : Prop} [Decidable c] {G : α → β → Option γ} {P : γ → Prop} (h : zw2 x y R) (h1 : ¬ c) (k : ∀ a b, R a b → zwp (G a b) P) : zwp (x.bind fun a => if c then none else y.bind fun b => G a b) P := by
  obtain ⟨a, b, rfl, rfl, hr⟩ := h
  exact zwp_f h1 (k a b hr)
theorem zw2_2 {α β γ : Type} {x : Option α} {y : Option β} {R : α → β → Prop} {c d : Prop} [Decidable c] [Decidable d] {G : α → β → Option γ} {P : γ → Prop} (h : zw2 x y R) (h1 : ¬ c) (h2 : ¬ d) (k : ∀ a b, R a b → zwp (G a b) P) : zwp (x.bind fun a => if c then none else if d then none else y.bind fun b => G a b) P := by
  obtain ⟨a, b, rfl, rfl, hr⟩ := h
  exact zwp_f h1 (zwp_f h2 (k a b hr))
theorem zw2_3 {α β γ : Type} {x : Option α} {y : Option β} {R : α → β → Prop} {c d e : Prop} [Decidable c] [Decidable d] [Decidable e] {G : α → β → Option γ} {P : γ → Prop} (h : zw2 x y R) (h1 : ¬ c) (h2 : ¬ d) (h3 : ¬ e) (k : ∀ a b, R a b → zwp (G a b) P) : zwp (x.bind fun a => if c then none else if d then none else if e then none else y.bind fun b => G a b) P := by
  obtain ⟨a, b, rfl, rfl, hr⟩ := h
  exact zwp_f h1 (zwp_f h2 (zwp_f h3 (k a b hr)))
theorem zw2_of {α β γ : Type} {x : Option α} {y : Option β} {f : α → γ} {h : β → γ} {v : γ} (hx : zwp x (fun a => f a = v)) (hy : zwp y (fun b => h b = v)) : zw2 x y (fun a b => f a = h b) := zw2_i hx hy (fun _ _ ha hb => ha.trans hb.symm)
theorem rp_in (x : Int32) (lo hi : Int64) : fn_Ref_in x.toInt64 lo hi = if lo.toInt ≤ x.toInt ∧ x.toInt ≤ hi.toInt then 1 else 0 := by
  unfold fn_Ref_in
  simp only [lg_cmp_lt, lg_cmp_gt, Int64.lt_iff_toInt_lt, Int32.toInt_toInt64]
  by_cases h1 : x.toInt < lo.toInt
  · rw [if_pos h1, if_neg (by omega)]
  · rw [if_neg h1]
    by_cases h2 : hi.toInt < x.toInt
    · rw [if_pos h2, if_neg (by omega)]
    · rw [if_neg h2, if_pos (by omega)]
theorem zint_of {x : Int32} (h : 0 ≤ x.toInt) : x = nI x.toInt.toNat := by
  have := Int32.toInt_lt x
  rw [← Int32.toInt_inj, nI_toInt (by omega)]; omega
theorem zread (x : Int32) : (fn_Parser_isReading x = 0 ∧ fn_Ref_isReading x = some 0) ∨ ∃ rd, rd < 4 ∧ x = nI rd := by
  by_cases h : 0 ≤ x.toInt ∧ x.toInt ≤ 3
  · exact Or.inr ⟨x.toInt.toNat, by omega, zint_of h.1⟩
  · left
    have e0 : (0 : Int64).toInt = 0 := by decide
    have e3 : (3 : Int64).toInt = 3 := by decide
    have hi := rp_in x 0 3
    rw [e0, e3, if_neg h] at hi
    constructor
    · unfold fn_Parser_isReading
      by_cases h1 : x < 0
      · rw [if_pos h1]
      · rw [if_neg h1, if_pos]
        rw [Int32.lt_iff_toInt_lt] at h1
        rw [Int32.le_iff_toInt_le]
        have e1 : (4 : Int32).toInt = 4 := by decide
        have e2 : (0 : Int32).toInt = 0 := by decide
        omega
    · unfold fn_Ref_isReading
      rw [hi, if_neg (by decide)]
theorem zread_1 {rd : Nat} (h : rd < 4) : fn_Parser_isReading (nI rd) = 1 ∧ fn_Ref_isReading (nI rd) = some 1 := by
  have : ∀ rd, rd < 4 → fn_Parser_isReading (nI rd) = 1 ∧ fn_Ref_isReading (nI rd) = some 1 := by decide +kernel
  exact this rd h
theorem zletter (x : Int32) : (fn_Parser_isLetterIndex x = 0 ∧ fn_Ref_in x.toInt64 0 25 = 0) ∨ ∃ d, d < 26 ∧ x = nI d ∧ fn_Parser_isLetterIndex x = 1 ∧ fn_Ref_in x.toInt64 0 25 = 1 := by
  have e0 : (0 : Int64).toInt = 0 := by decide
  have e3 : (25 : Int64).toInt = 25 := by decide
  have hi := rp_in x 0 25
  rw [e0, e3] at hi
  have e1 : (26 : Int32).toInt = 26 := by decide
  have e2 : (0 : Int32).toInt = 0 := by decide
  unfold fn_Parser_isLetterIndex
  by_cases h : 0 ≤ x.toInt ∧ x.toInt ≤ 25
  · right
    refine ⟨x.toInt.toNat, by omega, zint_of h.1, ?_, by rw [hi, if_pos h]⟩
    rw [if_neg (by rw [Int32.lt_iff_toInt_lt]; omega), if_neg (by rw [Int32.le_iff_toInt_le]; omega)]
  · left
    refine ⟨?_, by rw [hi, if_neg h]⟩
    by_cases h1 : x < 0
    · rw [if_pos h1]
    · rw [if_neg h1, if_pos]
      rw [Int32.lt_iff_toInt_lt] at h1
      rw [Int32.le_iff_toInt_le]
      omega
theorem zvalue (x : Int32) : (fn_Parser_isVariableValue x = 0 ∧ fn_Ref_in x.toInt64 (-1000) 1000 = 0) ∨ ∃ k, k ≤ 2000 ∧ x = zvk k ∧ fn_Parser_isVariableValue x = 1 ∧ fn_Ref_in x.toInt64 (-1000) 1000 = 1 := by
  have e0 : (-1000 : Int64).toInt = -1000 := by decide
  have e3 : (1000 : Int64).toInt = 1000 := by decide
  have hi := rp_in x (-1000) 1000
  rw [e0, e3] at hi
  have e1 : (1000 : Int32).toInt = 1000 := by decide
  have e2 : (-1000 : Int32).toInt = -1000 := by decide
  by_cases h : -1000 ≤ x.toInt ∧ x.toInt ≤ 1000
  · right
    have h1 : fn_Parser_isVariableValue x = 1 := by
      unfold fn_Parser_isVariableValue
      rw [if_neg (by rw [Int32.lt_iff_toInt_lt]; omega), if_neg (by rw [Int32.lt_iff_toInt_lt]; omega)]
    obtain ⟨k, hk, e⟩ := zvk_of (x := x) (by rw [h1]; decide)
    exact ⟨k, hk, e, h1, by rw [hi, if_pos h]⟩
  · left
    refine ⟨?_, by rw [hi, if_neg h]⟩
    unfold fn_Parser_isVariableValue
    by_cases h1 : x < -1000
    · rw [if_pos h1]
    · rw [if_neg h1, if_pos]
      rw [Int32.lt_iff_toInt_lt] at h1 ⊢
      omega
theorem zindex (x : Int32) : (¬ 0 ≤ x) ∨ ∃ i, i < 2 ^ 31 ∧ x = nI i := by
  by_cases h : 0 ≤ x
  · right
    rw [Int32.le_iff_toInt_le] at h
    have e2 : (0 : Int32).toInt = 0 := by decide
    have := Int32.toInt_lt x
    exact ⟨x.toInt.toNat, by omega, zint_of (by omega)⟩
  · exact Or.inl h
/-! text -/
section TX
variable {nc ml : Int32} {cf mt : Nat → Int32} {tx : List Nat}
theorem o_append (hx : ztx tx) (h1 : zstr 80 nc cf tx) (h2 : zro ml mt tx) (x : Int32) : zw2 (fn_Parser_append nc cf x) (fn_Ref_append ml mt x) (fun a b => a.1 = b.1 ∧ ∃ t, ztx t ∧ zstr 80 a.2.1 a.2.2 t ∧ zro b.2.1 b.2.2 t) := by
  have hlen := hx.1
  have e0 : (32 : Int64).toInt = 32 := by decide
  have e3 : (126 : Int64).toInt = 126 := by decide
  have hi := rp_in x 32 126
  rw [e0, e3] at hi
  have e1 : (32 : Int32).toInt = 32 := by decide
  have e2 : (126 : Int32).toInt = 126 := by decide
  unfold fn_Parser_append fn_Ref_append
  rw [hi]
  by_cases h : 32 ≤ x.toInt ∧ x.toInt ≤ 126
  · rw [if_pos h, if_neg (by rw [Int32.lt_iff_toInt_lt]; omega), if_pos (by rw [Int32.le_iff_toInt_le]; omega), if_neg (by decide : ¬ (1 : Int32) = 0)]
    have ex := zint_of (x := x) (by omega)
    generalize hk : x.toInt.toNat = k at ex
    have hk1 : 32 ≤ k ∧ k < 127 := by omega
    unfold fn_CharRow_room fn_CharRow_size
    have er : nI 80 - nc = nI (80 - tx.length) := by rw [h1.1, nI_sub hlen]
    rw [er]
    by_cases h80 : tx.length = 80
    · rw [if_pos (by rw [h80]; rfl), if_pos (by rw [h2.1, h80]; rfl)]
      exact ⟨_, _, rfl, rfl, rfl, tx, hx, h1, h2⟩
    · rw [if_neg (nI_ne0 (by omega) (by omega)), if_neg (by rw [h2.1]; exact fun hh => h80 ((nI_inj (b := 80) (by omega) (by omega)).mp hh))]
      refine zw2_i (P := fun a => a.1 = nI (tx.length + 1) ∧ zstr 80 a.2.1 a.2.2 (tx ++ [k])) (Q := fun b => b.1 = nI (tx.length + 1) ∧ zro b.2.1 b.2.2 (tx ++ [k])) ?_ ?_ (fun a b ha hb => ⟨ha.1.trans hb.1.symm, tx ++ [k], ⟨by rw [List.length_append]; simp only [List.length_cons, List.length_nil]; omega, fun c hc => ?_⟩, ha.2, hb.2⟩)
      · rw [ex]
        refine zwp_ret (sp_put (x := k) (by decide) h1 (by omega) (by omega)) (fun r hr => ⟨?_, hr⟩)
        rw [hr.1, List.length_append]; rfl
      · rw [h2.1]
        refine zwp_f (nI_in (by omega) (by omega)) (zwp_some ⟨nI_add1 _, ?_, ?_⟩)
        · show nI tx.length + 1 = _; rw [nI_add1, List.length_append]; rfl
        · show zrw (upd mt _ x) _ _; rw [nI_clamp (by omega), ex]; exact zrw_push h2.2 rfl
      · rcases List.mem_append.mp hc with hc | hc
        · exact hx.2 c hc
        · rw [List.mem_singleton] at hc; omega
  · rw [if_neg h, if_pos rfl]
    refine zw2_i (P := fun a => a = (-1, nc, cf)) (Q := fun b => b = (-1, ml, mt)) ?_ (zwp_some rfl) (fun a b ha hb => ?_)
    · by_cases h1' : x < 32
      · exact zwp_t h1' (zwp_some rfl)
      · refine zwp_f h1' (zwp_f ?_ (zwp_some rfl))
        rw [Int32.lt_iff_toInt_lt] at h1'
        rw [Int32.le_iff_toInt_le]
        omega
    · rw [ha, hb]; exact ⟨rfl, tx, hx, h1, h2⟩
/-- what syntaxError answers -/
def zsynA (tx : List Nat) : Int32 := match zbad zs0 (zTK tx) with
  | some q => nI q.2.2
  | none => match zgo zs0 (zTK tx) with
    | some s => if s.1 = 3 ∧ s.2.1 = 0 ∧ s.2.2.2.2 = 0 then -3 else nI tx.length
    | none => -3
theorem zTK_ok (hx : ztx tx) : (zTK tx).length ≤ 80 ∧ (∀ q ∈ zTK tx, zkok q) ∧ ∀ q ∈ zTK tx, ztd q :=
  ⟨Nat.le_trans (zTK_len hx) hx.1, ztoks_k _ _ _ (fun c hc => (hx.2 c hc).2), ztoks_td _ _ _ (fun c hc => (hx.2 c hc).2)⟩
theorem c_syn (hx : ztx tx) (h1 : zstr 80 nc cf tx) {prm : Int32} (hp : ∃ p, p ≤ 3 ∧ prm = nI p) (qc : Int32) (qk qs qd : Nat → Int32) (a b e o : Int32) :
    zwp (fn_Parser_syntaxError nc cf qc qk qs qd a b e prm o) (fun r => r.1 = zsynA tx ∧ ∃ p, p ≤ 3 ∧ r.2.2.2.2.2.2.2.2.1 = nI p) := by
  obtain ⟨p, hp3, rfl⟩ := hp
  obtain ⟨k1, k2, k3⟩ := zTK_ok hx
  have h1c := h1.1
  rw [h1c] at h1
  unfold fn_Parser_syntaxError
  rw [h1c]
  refine zwp_seq (sp_tokens hx h1 qc qk qs qd) (fun q hq => ?_)
  refine zwp_seq (sp_fault hq k1 k2 a b e p hp3 o) (fun r hr => ?_)
  obtain ⟨⟨f1, f2⟩, p', hp', hpr⟩ := hr
  have hpos : ∃ p, p ≤ 3 ∧ r.2.2.2.2.1 = nI p := ⟨p', hpr, hp'⟩
  unfold zsynA fn_Tokens_size fn_CharRow_size
  cases hb : zbad zs0 (zTK tx) with
  | some t =>
    obtain ⟨j, hj, hrj⟩ := f1 t hb
    have hjl := zgetlt hj
    dsimp only
    rw [hrj]
    refine zwp_f (nI_ne_neg (by omega) (by decide)) (zwp_f (by rw [hq.1]; exact nI_ge hjl (by omega)) ?_)
    have es : fn_Tokens_startOf q.1 q.2.2.1 (nI j) = some (nI t.2.2) := by
      unfold fn_Tokens_startOf
      rw [if_neg (nI_pos (by omega)), if_neg (by rw [hq.1]; exact nI_ge hjl (by omega)), if_neg (nI_in (by omega) (by omega)), nI_clamp (by omega), hq.2.2.2 j t hj]
    rw [es, Option.bind_some]
    exact zwp_some ⟨rfl, hpos⟩
  | none =>
    obtain ⟨s', hs'⟩ := zbad_go hb
    obtain ⟨g1, g2⟩ := f2 s' hb hs'
    dsimp only
    rw [hs']
    dsimp only
    by_cases hz : s'.1 = 3 ∧ s'.2.1 = 0 ∧ s'.2.2.2.2 = 0
    · rw [g1 hz, if_pos hz]; exact zwp_t rfl (zwp_some ⟨rfl, hpos⟩)
    · rw [g2 hz, if_neg hz]
      exact zwp_f (nI_ne_neg (by omega) (by decide)) (zwp_t (by rw [hq.1]; exact nI_le (Nat.le_refl _) (by omega)) (zwp_some ⟨rfl, hpos⟩))
theorem r_check (hx : ztx tx) (h2 : zro ml mt tx) (nt tk ta ah d lm ir pr : Int32) (nk na : Nat → Int32) :
    zwp (fn_Ref_check ml nt tk ta ah d lm ir pr mt nk na) (zckr tx zs0 (zTK tx) (zTK tx)) := by
  obtain ⟨k1, k2, k3⟩ := zTK_ok hx
  unfold fn_Ref_check
  rw [h2.1]
  exact rp_check hx h2.2 (zTK tx) k1 k2 zFU 0 (tx.length + 1) 0 0 0 zs0 [] (zTK tx) tk ta ah nk na (Nat.lt_of_le_of_lt (by have := hx.1; omega : tx.length - 0 ≤ 80) (by decide)) (Nat.zero_le _) (by omega) rfl rfl rfl ⟨zrw_nil, zrw_nil⟩ (by decide) (by decide) (fun h => (by cases h)) (by decide) ⟨by decide, by decide, by decide, by decide⟩ (Nat.le_refl _)
theorem r_syn (hx : ztx tx) (h2 : zro ml mt tx) (nt tk ta ah d lm ir pr : Int32) (nk na : Nat → Int32) :
    zwp (fn_Ref_syntaxError ml nt tk ta ah d lm ir pr mt nk na) (fun r => r.1 = zsynA tx) := by
  unfold fn_Ref_syntaxError
  refine zwp_ret (r_check hx h2 nt tk ta ah d lm ir pr nk na) (fun r hr => ?_)
  obtain ⟨f1, f2⟩ := hr
  show r.1 = _
  unfold zsynA
  cases hb : zbad zs0 (zTK tx) with
  | some t => exact f1 t hb
  | none =>
    obtain ⟨s', hs'⟩ := zbad_go hb
    obtain ⟨g1, g2⟩ := f2 s' hb hs'
    dsimp only
    rw [hs']
    dsimp only
    by_cases hz : s'.1 = 3 ∧ s'.2.1 = 0 ∧ s'.2.2.2.2 = 0
    · rw [if_pos hz]; exact (g1 hz).1
    · rw [if_neg hz]; exact g2 hz
end TX
/-! letters -/
section LE
variable {v mv g : Nat → Int32}
theorem o_set (h1 : ∀ j, j < 26 → v j = g j) (h2 : ∀ j, j < 26 → mv j = g j) (x y : Int32) : zw2 (fn_Parser_setVariable v x y) (fn_Ref_setVariable mv x y) (fun a b => a.1 = b.1 ∧ ∃ g' : Nat → Int32, (∀ j, j < 26 → a.2 j = g' j) ∧ ∀ j, j < 26 → b.2 j = g' j) := by
  have hsame : ∀ (u w : Nat → Int32), (∀ j, j < 26 → u j = g j) → (∀ j, j < 26 → w j = g j) → ∃ g' : Nat → Int32, (∀ j, j < 26 → u j = g' j) ∧ ∀ j, j < 26 → w j = g' j := fun u w a b => ⟨g, a, b⟩
  unfold fn_Parser_setVariable fn_Ref_setVariable
  rcases zletter x with ⟨a1, a2⟩ | ⟨d, hd, e, a1, a2⟩
  · rw [a1, a2, if_pos rfl, if_pos rfl]; exact ⟨_, _, rfl, rfl, rfl, hsame v mv h1 h2⟩
  rw [a1, a2, if_neg (by decide : ¬ (1 : Int32) = 0), if_neg (by decide : ¬ (1 : Int32) = 0)]
  rcases zvalue y with ⟨b1, b2⟩ | ⟨k, hk, e', b1, b2⟩
  · rw [b1, b2, if_pos rfl, if_pos rfl]; exact ⟨_, _, rfl, rfl, rfl, hsame v mv h1 h2⟩
  have hb := nI_in2 (c := d) (N := 26) (by omega) (by omega)
  rw [b1, b2, if_neg (by decide : ¬ (1 : Int32) = 0), if_neg (by decide : ¬ (1 : Int32) = 0), e, nI_clamp (by omega)]
  simp only [if_neg hb]
  rw [h1 d hd, h2 d hd]
  have hup : ∀ (w : Nat → Int32), (∀ j, j < 26 → w j = g j) → ∀ j, j < 26 → upd w d y j = upd g d y j := by
    intro w hw j hj
    by_cases hjd : j = d
    · rw [hjd, upd_at, upd_at]
    · rw [upd_ne hjd, upd_ne hjd]; exact hw j hj
  by_cases hg : g d = y
  · rw [if_pos hg, if_pos hg]
    refine ⟨_, _, rfl, rfl, rfl, g, h1, fun j hj => ?_⟩
    show upd mv d y j = g j
    rw [hup mv h2 j hj]
    by_cases hjd : j = d
    · rw [hjd, upd_at]; exact hg.symm
    · rw [upd_ne hjd]
  · rw [if_neg hg, if_neg hg]
    exact ⟨_, _, rfl, rfl, rfl, upd g d y, hup v h1, hup mv h2⟩
end LE
section QU
variable {pc ps tc ts wc ws bc bs : Int32} {pk pd pl pr po pj tk td tl tr to tj wk wd wl wr wo wj bk bd bl br bo bj : Nat → Int32} {l : List (Nat × Nat × Nat)} {g mv v mk ma : Nat → Int32}
variable {es p1 t1 w1 b1 : Int32} {ev ed : Nat → Int64} {p2 t2 w2 b2 : Int64}
variable {s1 s2 s3 s4 s5 st : Int32} {oc : Int64} {e1 e2 e3 e4 e5 e6 e7 e8 e9 : Nat → Int32} {re row : Nat → Int64}
theorem o_occ (h4 : zfour l) (hc : zct pc pk pd pl pr (zNd l 0)) (hq : zqr mk ma l) (x : Int32) : zw2 (fn_Parser_occurrences pc pk pd x) (fn_Ref_occurrences (nI l.length) mk ma x) (fun a b => a = b) := by
  unfold fn_Parser_occurrences fn_Ref_occurrences
  rcases zletter x with ⟨a1, a2⟩ | ⟨d, hd, e, a1, a2⟩
  · rw [a1, a2, if_pos rfl, if_pos rfl]; exact ⟨_, _, rfl, rfl, rfl⟩
  · rw [a1, a2, if_neg (by decide), if_neg (by decide), e, sp_cv hc (h4.2.2 0 (by decide)).1 d hd, Option.bind_some]
    have := rp_cvl hq h4.1.2.2 h4.1.2.1 h4.2.1 d hd zFU 0 (Nat.zero_le _) (Nat.lt_of_le_of_lt (by have := h4.1.2.2; omega : l.length - 0 ≤ 80) (by decide))
    have hz : zcl d (l.take 0) = 0 := rfl
    rw [hz] at this
    refine ⟨_, _, rfl, this, ?_⟩
    rw [show zcv d (zNd l 0) = zcl d l from zbuild_cv h4.1 d]
theorem c_status (h4 : zfour l) (hc : zcl4 pc ps pk pd pl pr po pj tc ts tk td tl tr to tj wc ws wk wd wl wr wo wj bc bs bk bd bl br bo bj l) (hg : ∀ j, j < 26 → v j = g j) {rd : Nat} (hrd : rd < 4) : zwp (fn_Parser_status v es ev ed p1 p2 pc ps pk pd pl pr po pj t1 t2 tc ts tk td tl tr to tj w1 w2 wc ws wk wd wl wr wo wj b1 b2 bc bs bk bd bl br bo bj (nI rd)) (fun r => r.1 = zsO l g rd) := by
  obtain ⟨c0, c1, c2, c3⟩ := hc
  unfold fn_Parser_status
  rw [(zread_1 hrd).1]
  refine zwp_f (by decide) ?_
  have hr' : rd = 0 ∨ rd = 1 ∨ rd = 2 ∨ rd = 3 := by omega
  rcases hr' with rfl | rfl | rfl | rfl
  · refine zwp_f (by decide) (zwp_f (by decide) (zwp_f (by decide) ?_))
    exact zwp_ret (sp_judge (g := g) (h4.2.2 0 (by decide)) c0 hg _ _ _ _ _) (fun r hr => hr.1)
  · refine zwp_t rfl ?_
    exact zwp_ret (sp_judge (g := g) (h4.2.2 1 (by decide)) c1 hg _ _ _ _ _) (fun r hr => hr.1)
  · refine zwp_f (by decide) (zwp_t rfl ?_)
    exact zwp_ret (sp_judge (g := g) (h4.2.2 2 (by decide)) c2 hg _ _ _ _ _) (fun r hr => hr.1)
  · refine zwp_f (by decide) (zwp_f (by decide) (zwp_t rfl ?_))
    exact zwp_ret (sp_judge (g := g) (h4.2.2 3 (by decide)) c3 hg _ _ _ _ _) (fun r hr => hr.1)
theorem c_value (h4 : zfour l) (hc : zcl4 pc ps pk pd pl pr po pj tc ts tk td tl tr to tj wc ws wk wd wl wr wo wj bc bs bk bd bl br bo bj l) (hg : ∀ j, j < 26 → v j = g j) {rd : Nat} (hrd : rd < 4) : zwp (fn_Parser_value v es ev ed p1 p2 pc ps pk pd pl pr po pj t1 t2 tc ts tk td tl tr to tj w1 w2 wc ws wk wd wl wr wo wj b1 b2 bc bs bk bd bl br bo bj (nI rd)) (fun r => r.1 = zoO l g rd) := by
  obtain ⟨c0, c1, c2, c3⟩ := hc
  unfold fn_Parser_value
  rw [(zread_1 hrd).1]
  refine zwp_f (by decide) ?_
  have hr' : rd = 0 ∨ rd = 1 ∨ rd = 2 ∨ rd = 3 := by omega
  rcases hr' with rfl | rfl | rfl | rfl
  · refine zwp_f (by decide) (zwp_f (by decide) (zwp_f (by decide) ?_))
    exact zwp_ret (sp_judge (g := g) (h4.2.2 0 (by decide)) c0 hg _ _ _ _ _) (fun r hr => hr.2.1)
  · refine zwp_t rfl ?_
    exact zwp_ret (sp_judge (g := g) (h4.2.2 1 (by decide)) c1 hg _ _ _ _ _) (fun r hr => hr.2.1)
  · refine zwp_f (by decide) (zwp_t rfl ?_)
    exact zwp_ret (sp_judge (g := g) (h4.2.2 2 (by decide)) c2 hg _ _ _ _ _) (fun r hr => hr.2.1)
  · refine zwp_f (by decide) (zwp_f (by decide) (zwp_t rfl ?_))
    exact zwp_ret (sp_judge (g := g) (h4.2.2 3 (by decide)) c3 hg _ _ _ _ _) (fun r hr => hr.2.1)
theorem o_status (h4 : zfour l) (hc : zcl4 pc ps pk pd pl pr po pj tc ts tk td tl tr to tj wc ws wk wd wl wr wo wj bc bs bk bd bl br bo bj l) (h1 : ∀ j, j < 26 → v j = g j) (hq : zqr mk ma l) (h2 : ∀ j, j < 26 → mv j = g j) (x : Int32) : zw2 (fn_Parser_status v es ev ed p1 p2 pc ps pk pd pl pr po pj t1 t2 tc ts tk td tl tr to tj w1 w2 wc ws wk wd wl wr wo wj b1 b2 bc bs bk bd bl br bo bj x) (fn_Ref_status (nI l.length) s1 s2 s3 s4 s5 st oc mk ma mv e1 e2 e3 e4 re e5 e6 e7 e8 e9 row x) (fun a b => a.1 = b.1) := by
  rcases zread x with ⟨a1, a2⟩ | ⟨rd, hrd, rfl⟩
  · unfold fn_Parser_status fn_Ref_status
    rw [a1, a2, if_pos rfl, Option.bind_some, if_pos rfl]
    exact ⟨_, _, rfl, rfl, rfl⟩
  · exact zw2_i (c_status h4 hc h1 hrd) (rp_status hq h4 (fun j hj => (h2 j hj).symm) rd hrd s1 s2 s3 s4 s5 st oc e1 e2 e3 e4 re e5 e6 e7 e8 e9 row) (fun a b ha hb => ha.trans hb.1.symm)
theorem o_value (h4 : zfour l) (hc : zcl4 pc ps pk pd pl pr po pj tc ts tk td tl tr to tj wc ws wk wd wl wr wo wj bc bs bk bd bl br bo bj l) (h1 : ∀ j, j < 26 → v j = g j) (hq : zqr mk ma l) (h2 : ∀ j, j < 26 → mv j = g j) (x : Int32) : zw2 (fn_Parser_value v es ev ed p1 p2 pc ps pk pd pl pr po pj t1 t2 tc ts tk td tl tr to tj w1 w2 wc ws wk wd wl wr wo wj b1 b2 bc bs bk bd bl br bo bj x) (fn_Ref_value (nI l.length) s1 s2 s3 s4 s5 st oc mk ma mv e1 e2 e3 e4 re e5 e6 e7 e8 e9 row x) (fun a b => a.1 = b.1) := by
  rcases zread x with ⟨a1, a2⟩ | ⟨rd, hrd, rfl⟩
  · unfold fn_Parser_value fn_Ref_value fn_Ref_status
    rw [a1, a2, if_pos rfl, Option.bind_some, if_pos rfl, Option.bind_some, if_neg (by decide : ¬ (-1 : Int32) = 0)]
    exact ⟨_, _, rfl, rfl, rfl⟩
  · refine zw2_i (Q := fun b => b.1 = zoO l g rd) (c_value h4 hc h1 hrd) ?_ (fun a b ha hb => ha.trans hb.symm)
    unfold fn_Ref_value
    refine zwp_seq (rp_status hq h4 (fun j hj => (h2 j hj).symm) rd hrd s1 s2 s3 s4 s5 st oc e1 e2 e3 e4 re e5 e6 e7 e8 e9 row) (fun q hq' => ?_)
    refine zwp_ite (fun h0 => zwp_some hq'.2) (fun h0 => zwp_some ?_)
    show (0 : Int64) = _
    rw [hq'.1] at h0
    unfold zoO zvou
    rw [if_neg (show ¬ zvst (zNd l rd) g = 0 from h0)]
theorem c_link (h4 : zfour l) (hc : zcl4 pc ps pk pd pl pr po pj tc ts tk td tl tr to tj wc ws wk wd wl wr wo wj bc bs bk bd bl br bo bj l) (hg : ∀ j, j < 26 → v j = g j) {rd n : Nat} (hrd : rd < 4) (hn : n < 2 ^ 31) : zwp (fn_Parser_linkHolds v es ev ed p1 p2 pc ps pk pd pl pr po pj t1 t2 tc ts tk td tl tr to tj w1 w2 wc ws wk wd wl wr wo wj b1 b2 bc bs bk bd bl br bo bj (nI rd) (nI n)) (fun r => r.1 = zlh (zNd l rd) (zSu l rd) g n) := by
  obtain ⟨c0, c1, c2, c3⟩ := hc
  unfold fn_Parser_linkHolds zlh
  rw [(zread_1 hrd).1]
  refine zwp_f (by decide) (zwp_t (nI_pos' hn) ?_)
  have hr' : rd = 0 ∨ rd = 1 ∨ rd = 2 ∨ rd = 3 := by omega
  rcases hr' with rfl | rfl | rfl | rfl
  · refine zwp_f (by decide) (zwp_f (by decide) (zwp_f (by decide) ?_))
    have hf := h4.2.2 0 (by decide)
    rw [sp_solv hf c0 hn, Option.bind_some]
    by_cases hln : n < (zR (zJ (zSu l 0))).length
    · rw [if_pos hln, if_pos hln]
      have hb4 := (zfit_J hf).2.2
      obtain ⟨p1, -⟩ := zpos_at (zJ (zSu l 0)).length _ (Nat.le_refl _) (zfit_J hf).2.1 n _ (List.getElem?_eq_getElem hln)
      have hpl := zgetlt p1
      have hjl : (zJ (zSu l 0)).length + 1 = (zSu l 0).length := by rw [← List.length_map (f := fun q : Nat × Nat => q.1), (zfit_J hf).1]; rfl
      have h9 := hf.2.2.2.1
      refine zwp_f (nI_ne_neg (by omega) (by decide)) (zwp_seq (sp_judge (g := g) hf c0 hg _ _ _ _ _) (fun r hr => ?_))
      obtain ⟨r1, r2, r3⟩ := hr
      refine zwp_ite (fun h0 => ?_) (fun h0 => zwp_some ?_)
      · rw [if_pos (r1.symm.trans h0)]
        refine zwp_seq (sp_holdv (g := g) hf c0 hln (r3 h0)) (fun u hu => ?_)
        rw [hu]
        cases zhold (zvvl (zNd l 0) g) (zSu l 0) (zJ (zSu l 0)) (zpos (zR (zJ (zSu l 0))) n) with
        | false => exact zwp_t rfl (zwp_some rfl)
        | true => exact zwp_f (by decide) (zwp_some rfl)
      · rw [if_neg (fun h => h0 (r1.trans h))]
    · rw [if_neg hln, if_neg hln]
      exact zwp_t rfl (zwp_some rfl)
  · refine zwp_t rfl ?_
    have hf := h4.2.2 1 (by decide)
    rw [sp_solv hf c1 hn, Option.bind_some]
    by_cases hln : n < (zR (zJ (zSu l 1))).length
    · rw [if_pos hln, if_pos hln]
      have hb4 := (zfit_J hf).2.2
      obtain ⟨p1, -⟩ := zpos_at (zJ (zSu l 1)).length _ (Nat.le_refl _) (zfit_J hf).2.1 n _ (List.getElem?_eq_getElem hln)
      have hpl := zgetlt p1
      have hjl : (zJ (zSu l 1)).length + 1 = (zSu l 1).length := by rw [← List.length_map (f := fun q : Nat × Nat => q.1), (zfit_J hf).1]; rfl
      have h9 := hf.2.2.2.1
      refine zwp_f (nI_ne_neg (by omega) (by decide)) (zwp_seq (sp_judge (g := g) hf c1 hg _ _ _ _ _) (fun r hr => ?_))
      obtain ⟨r1, r2, r3⟩ := hr
      refine zwp_ite (fun h0 => ?_) (fun h0 => zwp_some ?_)
      · rw [if_pos (r1.symm.trans h0)]
        refine zwp_seq (sp_holdv (g := g) hf c1 hln (r3 h0)) (fun u hu => ?_)
        rw [hu]
        cases zhold (zvvl (zNd l 1) g) (zSu l 1) (zJ (zSu l 1)) (zpos (zR (zJ (zSu l 1))) n) with
        | false => exact zwp_t rfl (zwp_some rfl)
        | true => exact zwp_f (by decide) (zwp_some rfl)
      · rw [if_neg (fun h => h0 (r1.trans h))]
    · rw [if_neg hln, if_neg hln]
      exact zwp_t rfl (zwp_some rfl)
  · refine zwp_f (by decide) (zwp_t rfl ?_)
    have hf := h4.2.2 2 (by decide)
    rw [sp_solv hf c2 hn, Option.bind_some]
    by_cases hln : n < (zR (zJ (zSu l 2))).length
    · rw [if_pos hln, if_pos hln]
      have hb4 := (zfit_J hf).2.2
      obtain ⟨p1, -⟩ := zpos_at (zJ (zSu l 2)).length _ (Nat.le_refl _) (zfit_J hf).2.1 n _ (List.getElem?_eq_getElem hln)
      have hpl := zgetlt p1
      have hjl : (zJ (zSu l 2)).length + 1 = (zSu l 2).length := by rw [← List.length_map (f := fun q : Nat × Nat => q.1), (zfit_J hf).1]; rfl
      have h9 := hf.2.2.2.1
      refine zwp_f (nI_ne_neg (by omega) (by decide)) (zwp_seq (sp_judge (g := g) hf c2 hg _ _ _ _ _) (fun r hr => ?_))
      obtain ⟨r1, r2, r3⟩ := hr
      refine zwp_ite (fun h0 => ?_) (fun h0 => zwp_some ?_)
      · rw [if_pos (r1.symm.trans h0)]
        refine zwp_seq (sp_holdv (g := g) hf c2 hln (r3 h0)) (fun u hu => ?_)
        rw [hu]
        cases zhold (zvvl (zNd l 2) g) (zSu l 2) (zJ (zSu l 2)) (zpos (zR (zJ (zSu l 2))) n) with
        | false => exact zwp_t rfl (zwp_some rfl)
        | true => exact zwp_f (by decide) (zwp_some rfl)
      · rw [if_neg (fun h => h0 (r1.trans h))]
    · rw [if_neg hln, if_neg hln]
      exact zwp_t rfl (zwp_some rfl)
  · refine zwp_f (by decide) (zwp_f (by decide) (zwp_t rfl ?_))
    have hf := h4.2.2 3 (by decide)
    rw [sp_solv hf c3 hn, Option.bind_some]
    by_cases hln : n < (zR (zJ (zSu l 3))).length
    · rw [if_pos hln, if_pos hln]
      have hb4 := (zfit_J hf).2.2
      obtain ⟨p1, -⟩ := zpos_at (zJ (zSu l 3)).length _ (Nat.le_refl _) (zfit_J hf).2.1 n _ (List.getElem?_eq_getElem hln)
      have hpl := zgetlt p1
      have hjl : (zJ (zSu l 3)).length + 1 = (zSu l 3).length := by rw [← List.length_map (f := fun q : Nat × Nat => q.1), (zfit_J hf).1]; rfl
      have h9 := hf.2.2.2.1
      refine zwp_f (nI_ne_neg (by omega) (by decide)) (zwp_seq (sp_judge (g := g) hf c3 hg _ _ _ _ _) (fun r hr => ?_))
      obtain ⟨r1, r2, r3⟩ := hr
      refine zwp_ite (fun h0 => ?_) (fun h0 => zwp_some ?_)
      · rw [if_pos (r1.symm.trans h0)]
        refine zwp_seq (sp_holdv (g := g) hf c3 hln (r3 h0)) (fun u hu => ?_)
        rw [hu]
        cases zhold (zvvl (zNd l 3) g) (zSu l 3) (zJ (zSu l 3)) (zpos (zR (zJ (zSu l 3))) n) with
        | false => exact zwp_t rfl (zwp_some rfl)
        | true => exact zwp_f (by decide) (zwp_some rfl)
      · rw [if_neg (fun h => h0 (r1.trans h))]
    · rw [if_neg hln, if_neg hln]
      exact zwp_t rfl (zwp_some rfl)
theorem r_link (h4 : zfour l) (hq : zqr mk ma l) (hg : ∀ j, j < 26 → g j = mv j) {rd n : Nat} (hrd : rd < 4) (hn : n < 2 ^ 31) : zwp (fn_Ref_linkHolds (nI l.length) s1 s2 s3 s4 s5 st oc mk ma mv e1 e2 e3 e4 re e5 e6 e7 e8 e9 row (nI rd) (nI n)) (fun r => r.1 = zlh (zNd l rd) (zSu l rd) g n) := by
  have hf := h4.2.2 rd hrd
  unfold fn_Ref_linkHolds
  rw [(zread_1 hrd).2, Option.bind_some]
  refine zwp_f (by decide) (zwp_t (nI_pos' hn) ?_)
  refine zwp_seq (rp_build hq h4.1 rd hrd s1 s2 s3 s4 s5 e1 e2 e3 e4 e5 e6 e7 e8 e9) (fun r hr => ?_)
  have hr2 : zrtree r (zNd l rd) (zSu l rd) := hr
  have ht := zrtr_of hr2 hf
  have hb4 := (zfit_J hf).2.2
  have hlk := ht.2.2.2
  unfold zlh
  by_cases hln : n < (zR (zJ (zSu l rd))).length
  · rw [if_pos hln]
    refine zwp_t (by rw [hlk]; exact (nI_lti hn (by omega)).mpr hln) (zwp_seq (e_ref (g := g) hf ht hg _ _ _ _) (fun b hb => ?_))
    obtain ⟨b1, b2, b3⟩ := hb
    refine zwp_ite (fun h0 => ?_) (fun h0 => zwp_some ?_)
    · rw [if_pos (b1.symm.trans h0)]
      refine zwp_seq (rp_holdv (g := g) hf ht hln (b3 h0)) (fun u hu => ?_)
      rw [hu]
      cases zhold (zvvl (zNd l rd) g) (zSu l rd) (zJ (zSu l rd)) (zpos (zR (zJ (zSu l rd))) n) with
      | false => exact zwp_t rfl (zwp_some rfl)
      | true => exact zwp_f (by decide) (zwp_some rfl)
    · rw [if_neg (fun h => h0 (b1.trans h))]
  · rw [if_neg hln]
    exact zwp_f (by rw [hlk, nI_lti hn (by omega)]; exact hln) (zwp_some rfl)
theorem o_link (h4 : zfour l) (hc : zcl4 pc ps pk pd pl pr po pj tc ts tk td tl tr to tj wc ws wk wd wl wr wo wj bc bs bk bd bl br bo bj l) (h1 : ∀ j, j < 26 → v j = g j) (hq : zqr mk ma l) (h2 : ∀ j, j < 26 → mv j = g j) (x y : Int32) : zw2 (fn_Parser_linkHolds v es ev ed p1 p2 pc ps pk pd pl pr po pj t1 t2 tc ts tk td tl tr to tj w1 w2 wc ws wk wd wl wr wo wj b1 b2 bc bs bk bd bl br bo bj x y) (fn_Ref_linkHolds (nI l.length) s1 s2 s3 s4 s5 st oc mk ma mv e1 e2 e3 e4 re e5 e6 e7 e8 e9 row x y) (fun a b => a.1 = b.1) := by
  rcases zread x with ⟨a1, a2⟩ | ⟨rd, hrd, rfl⟩
  · unfold fn_Parser_linkHolds fn_Ref_linkHolds
    rw [a1, a2, if_pos rfl, Option.bind_some, if_pos rfl]
    exact ⟨_, _, rfl, rfl, rfl⟩
  · rcases zindex y with hy | ⟨n, hn, rfl⟩
    · unfold fn_Parser_linkHolds fn_Ref_linkHolds
      rw [(zread_1 hrd).1, (zread_1 hrd).2, if_neg (by decide : ¬ (1 : Int32) = 0), Option.bind_some, if_neg (by decide : ¬ (1 : Int32) = 0), if_neg hy, if_neg hy]
      exact ⟨_, _, rfl, rfl, rfl⟩
    · exact zw2_i (c_link h4 hc h1 hrd hn) (r_link h4 hq (fun j hj => (h2 j hj).symm) hrd hn) (fun a b ha hb => ha.trans hb.symm)
theorem o_next (h4 : zfour l) (hc : zcl4 pc ps pk pd pl pr po pj tc ts tk td tl tr to tj wc ws wk wd wl wr wo wj bc bs bk bd bl br bo bj l) (h1 : ∀ j, j < 26 → v j = g j) (hq : zqr mk ma l) (h2 : ∀ j, j < 26 → mv j = g j) (x y z : Int32) : zw2 (fn_Parser_nextSolution v es ev ed p1 p2 pc ps pk pd pl pr po pj t1 t2 tc ts tk td tl tr to tj w1 w2 wc ws wk wd wl wr wo wj b1 b2 bc bs bk bd bl br bo bj x y z) (fn_Ref_nextSolution (nI l.length) s1 s2 s3 s4 s5 st oc mk ma mv e1 e2 e3 e4 re e5 e6 e7 e8 e9 row x y z) (fun a b => a.1 = b.1 ∧ (∀ j, j < 26 → a.2.1 j = g j) ∧ ∀ j, j < 26 → b.2.2.2.2.2.2.2.2.1 j = g j) := by
  rcases zread x with ⟨a1, a2⟩ | ⟨rd, hrd, rfl⟩
  · unfold fn_Parser_nextSolution fn_Ref_nextSolution
    rw [a1, a2, if_pos rfl, Option.bind_some, if_pos rfl]
    exact ⟨_, _, rfl, rfl, rfl, h1, h2⟩
  rcases zletter y with ⟨b1, b2⟩ | ⟨d, hd, e, b1, b2⟩
  · unfold fn_Parser_nextSolution fn_Ref_nextSolution
    rw [(zread_1 hrd).1, (zread_1 hrd).2, if_neg (by decide : ¬ (1 : Int32) = 0), Option.bind_some, if_neg (by decide : ¬ (1 : Int32) = 0), b1, b2, if_pos rfl, if_pos rfl]
    exact ⟨_, _, rfl, rfl, rfl, h1, h2⟩
  rcases zvalue z with ⟨c1, c2⟩ | ⟨k, hk, e', c1, c2⟩
  · unfold fn_Parser_nextSolution fn_Ref_nextSolution
    rw [(zread_1 hrd).1, (zread_1 hrd).2, if_neg (by decide : ¬ (1 : Int32) = 0), Option.bind_some, if_neg (by decide : ¬ (1 : Int32) = 0), b1, b2, if_neg (by decide : ¬ (1 : Int32) = 0), if_neg (by decide : ¬ (1 : Int32) = 0), c1, c2, if_pos rfl, if_pos rfl]
    exact ⟨_, _, rfl, rfl, rfl, h1, h2⟩
  rw [e, e']
  exact zw2_i (sp_nextS h4 hc v h1 hrd hd hk es ev ed p1 p2 t1 t2 w1 w2 _ _) (rp_nextS hq h4 mv h2 hrd hd hk st oc re row) (fun a b ha hb => ⟨ha.1.trans hb.1.symm, ha.2, hb.2⟩)
end QU
section Q2
variable {l : List (Nat × Nat × Nat)} {mk ma : Nat → Int32} {s1 s2 s3 s4 s5 oc tkm : Int32} {e1 e2 e3 e4 e5 e6 e7 e8 e9 o t : Nat → Int32}
variable {pc tc wc bc : Int32} {pk pd pl pr ph pf tk td tl tr th tf wk wd wl wr wh wf bk bd bl br bh bf : Nat → Int32}
theorem o_nodes (h4 : zfour l) (hq : zqr mk ma l) (h0 : pc = nI (zNd l 0).length) (h1 : tc = nI (zNd l 1).length) (h2 : wc = nI (zNd l 2).length) (h3 : bc = nI (zNd l 3).length) (x : Int32) : zwp (fn_Ref_nodeCount (nI l.length) s1 s2 s3 s4 s5 mk ma e1 e2 e3 e4 e5 e6 e7 e8 e9 x) (fun b => fn_Parser_nodeCount pc tc wc bc x = b.1) := by
  unfold fn_Ref_nodeCount fn_Parser_nodeCount fn_Tree_size
  rcases zread x with ⟨a1, a2⟩ | ⟨rd, hrd, rfl⟩
  · rw [a1, a2, if_pos rfl, Option.bind_some]
    exact zwp_t rfl (zwp_some rfl)
  · rw [(zread_1 hrd).1, (zread_1 hrd).2, if_neg (by decide : ¬ (1 : Int32) = 0), Option.bind_some]
    refine zwp_f (by decide) (zwp_ret (rp_build hq h4.1 rd hrd s1 s2 s3 s4 s5 e1 e2 e3 e4 e5 e6 e7 e8 e9) (fun r hr => ?_))
    have hr1 : r.1 = nI (zNd l rd).length := hr.1.1
    show _ = r.1
    rw [hr1]
    have hr' : rd = 0 ∨ rd = 1 ∨ rd = 2 ∨ rd = 3 := by omega
    rcases hr' with rfl | rfl | rfl | rfl
    · rw [if_neg (show ¬ nI 0 = (1 : Int32) by decide), if_neg (show ¬ nI 0 = (2 : Int32) by decide), if_neg (show ¬ nI 0 = (3 : Int32) by decide)]; exact h0
    · rw [if_pos (show nI 1 = (1 : Int32) from rfl)]; exact h1
    · rw [if_neg (show ¬ nI 2 = (1 : Int32) by decide), if_pos (show nI 2 = (2 : Int32) from rfl)]; exact h2
    · rw [if_neg (show ¬ nI 3 = (1 : Int32) by decide), if_neg (show ¬ nI 3 = (2 : Int32) by decide), if_pos (show nI 3 = (3 : Int32) from rfl)]; exact h3
theorem o_height (h4 : zfour l) (hq : zqr mk ma l) (h0 : zct pc pk pd pl pr (zNd l 0)) (h1 : zct tc tk td tl tr (zNd l 1)) (h2 : zct wc wk wd wl wr (zNd l 2)) (h3 : zct bc bk bd bl br (zNd l 3)) (hh : Nat → Int32) (x : Int32) : zw2 (fn_Parser_height pc pl pr ph tc tl tr th wc wl wr wh bc bl br bh x) (fn_Ref_height (nI l.length) s1 s2 s3 s4 s5 mk ma e1 e2 e3 e4 e5 e6 e7 e8 e9 hh x) (fun a b => a.1 = b.1) := by
  unfold fn_Ref_height fn_Parser_height fn_Tree_greatestHeight
  rcases zread x with ⟨a1, a2⟩ | ⟨rd, hrd, rfl⟩
  · rw [a1, a2, if_pos rfl, Option.bind_some, if_pos rfl]
    exact ⟨_, _, rfl, rfl, rfl⟩
  · rw [(zread_1 hrd).1, (zread_1 hrd).2, if_neg (by decide : ¬ (1 : Int32) = 0), Option.bind_some, if_neg (by decide : ¬ (1 : Int32) = 0)]
    obtain ⟨r, e, hr⟩ := rp_build hq h4.1 rd hrd s1 s2 s3 s4 s5 e1 e2 e3 e4 e5 e6 e7 e8 e9
    rw [e, Option.bind_some]
    have hok := (h4.2.2 rd hrd).1
    have h160 := (h4.2.2 rd hrd).2.1
    have hr' : rd = 0 ∨ rd = 1 ∨ rd = 2 ∨ rd = 3 := by omega
    rcases hr' with rfl | rfl | rfl | rfl
    · rw [if_neg (show ¬ nI 0 = (1 : Int32) by decide), if_neg (show ¬ nI 0 = (2 : Int32) by decide), if_neg (show ¬ nI 0 = (3 : Int32) by decide)]
      obtain ⟨a, b, ha, hb, hab⟩ := t_heights h0 hr.1 hok mk ma (nI l.length) r.2.1 r.2.2.1 r.2.2.2.1 r.2.2.2.2.1 r.2.2.2.2.2.2.2.2.2.1 r.2.2.2.2.2.2.2.2.2.2.1 r.2.2.2.2.2.2.2.2.2.2.2.1 r.2.2.2.2.2.2.2.2.2.2.2.2.1 r.2.2.2.2.2.2.2.2.2.2.2.2.2 zFU 0 0 ph hh (Nat.zero_le _) (Nat.lt_of_le_of_lt (by omega : (zNd l 0).length - 0 ≤ 160) (by decide)) (fun j hj => absurd hj (Nat.not_lt_zero _))
      have ha' : fn_Tree_greatestHeight_L4 pc pl pr zFU ph 0 0 = some a := ha
      have hb' : fn_Ref_height_L18 (nI l.length) mk ma zFU r.1 r.2.1 r.2.2.1 r.2.2.2.1 r.2.2.2.2.1 r.2.2.2.2.2.1 r.2.2.2.2.2.2.1 r.2.2.2.2.2.2.2.1 r.2.2.2.2.2.2.2.2.1 r.2.2.2.2.2.2.2.2.2.1 r.2.2.2.2.2.2.2.2.2.2.1 r.2.2.2.2.2.2.2.2.2.2.2.1 r.2.2.2.2.2.2.2.2.2.2.2.2.1 r.2.2.2.2.2.2.2.2.2.2.2.2.2 hh 0 0 = some b := hb
      rw [ha', hb', Option.bind_some]
      exact ⟨_, _, rfl, rfl, hab⟩
    · rw [if_pos (show nI 1 = (1 : Int32) from rfl)]
      obtain ⟨a, b, ha, hb, hab⟩ := t_heights h1 hr.1 hok mk ma (nI l.length) r.2.1 r.2.2.1 r.2.2.2.1 r.2.2.2.2.1 r.2.2.2.2.2.2.2.2.2.1 r.2.2.2.2.2.2.2.2.2.2.1 r.2.2.2.2.2.2.2.2.2.2.2.1 r.2.2.2.2.2.2.2.2.2.2.2.2.1 r.2.2.2.2.2.2.2.2.2.2.2.2.2 zFU 0 0 th hh (Nat.zero_le _) (Nat.lt_of_le_of_lt (by omega : (zNd l 1).length - 0 ≤ 160) (by decide)) (fun j hj => absurd hj (Nat.not_lt_zero _))
      have ha' : fn_Tree_greatestHeight_L4 tc tl tr zFU th 0 0 = some a := ha
      have hb' : fn_Ref_height_L18 (nI l.length) mk ma zFU r.1 r.2.1 r.2.2.1 r.2.2.2.1 r.2.2.2.2.1 r.2.2.2.2.2.1 r.2.2.2.2.2.2.1 r.2.2.2.2.2.2.2.1 r.2.2.2.2.2.2.2.2.1 r.2.2.2.2.2.2.2.2.2.1 r.2.2.2.2.2.2.2.2.2.2.1 r.2.2.2.2.2.2.2.2.2.2.2.1 r.2.2.2.2.2.2.2.2.2.2.2.2.1 r.2.2.2.2.2.2.2.2.2.2.2.2.2 hh 0 0 = some b := hb
      rw [ha', hb', Option.bind_some]
      exact ⟨_, _, rfl, rfl, hab⟩
    · rw [if_neg (show ¬ nI 2 = (1 : Int32) by decide), if_pos (show nI 2 = (2 : Int32) from rfl)]
      obtain ⟨a, b, ha, hb, hab⟩ := t_heights h2 hr.1 hok mk ma (nI l.length) r.2.1 r.2.2.1 r.2.2.2.1 r.2.2.2.2.1 r.2.2.2.2.2.2.2.2.2.1 r.2.2.2.2.2.2.2.2.2.2.1 r.2.2.2.2.2.2.2.2.2.2.2.1 r.2.2.2.2.2.2.2.2.2.2.2.2.1 r.2.2.2.2.2.2.2.2.2.2.2.2.2 zFU 0 0 wh hh (Nat.zero_le _) (Nat.lt_of_le_of_lt (by omega : (zNd l 2).length - 0 ≤ 160) (by decide)) (fun j hj => absurd hj (Nat.not_lt_zero _))
      have ha' : fn_Tree_greatestHeight_L4 wc wl wr zFU wh 0 0 = some a := ha
      have hb' : fn_Ref_height_L18 (nI l.length) mk ma zFU r.1 r.2.1 r.2.2.1 r.2.2.2.1 r.2.2.2.2.1 r.2.2.2.2.2.1 r.2.2.2.2.2.2.1 r.2.2.2.2.2.2.2.1 r.2.2.2.2.2.2.2.2.1 r.2.2.2.2.2.2.2.2.2.1 r.2.2.2.2.2.2.2.2.2.2.1 r.2.2.2.2.2.2.2.2.2.2.2.1 r.2.2.2.2.2.2.2.2.2.2.2.2.1 r.2.2.2.2.2.2.2.2.2.2.2.2.2 hh 0 0 = some b := hb
      rw [ha', hb', Option.bind_some]
      exact ⟨_, _, rfl, rfl, hab⟩
    · rw [if_neg (show ¬ nI 3 = (1 : Int32) by decide), if_neg (show ¬ nI 3 = (2 : Int32) by decide), if_pos (show nI 3 = (3 : Int32) from rfl)]
      obtain ⟨a, b, ha, hb, hab⟩ := t_heights h3 hr.1 hok mk ma (nI l.length) r.2.1 r.2.2.1 r.2.2.2.1 r.2.2.2.2.1 r.2.2.2.2.2.2.2.2.2.1 r.2.2.2.2.2.2.2.2.2.2.1 r.2.2.2.2.2.2.2.2.2.2.2.1 r.2.2.2.2.2.2.2.2.2.2.2.2.1 r.2.2.2.2.2.2.2.2.2.2.2.2.2 zFU 0 0 bh hh (Nat.zero_le _) (Nat.lt_of_le_of_lt (by omega : (zNd l 3).length - 0 ≤ 160) (by decide)) (fun j hj => absurd hj (Nat.not_lt_zero _))
      have ha' : fn_Tree_greatestHeight_L4 bc bl br zFU bh 0 0 = some a := ha
      have hb' : fn_Ref_height_L18 (nI l.length) mk ma zFU r.1 r.2.1 r.2.2.1 r.2.2.2.1 r.2.2.2.2.1 r.2.2.2.2.2.1 r.2.2.2.2.2.2.1 r.2.2.2.2.2.2.2.1 r.2.2.2.2.2.2.2.2.1 r.2.2.2.2.2.2.2.2.2.1 r.2.2.2.2.2.2.2.2.2.2.1 r.2.2.2.2.2.2.2.2.2.2.2.1 r.2.2.2.2.2.2.2.2.2.2.2.2.1 r.2.2.2.2.2.2.2.2.2.2.2.2.2 hh 0 0 = some b := hb
      rw [ha', hb', Option.bind_some]
      exact ⟨_, _, rfl, rfl, hab⟩
theorem o_printedLen (h4 : zfour l) (hq : zqr mk ma l) (hp : zpr4 pc pf tc tf wc wf bc bf (zPx l)) (x : Int32) : zwp (fn_Ref_printedLength (nI l.length) s1 s2 s3 s4 s5 oc tkm mk ma e1 e2 e3 e4 e5 e6 e7 e8 e9 o t x) (fun b => fn_Parser_printedLength pc tc wc bc x = b.1) := by
  unfold fn_Ref_printedLength fn_Parser_printedLength fn_CharRow_size
  rcases zread x with ⟨a1, a2⟩ | ⟨rd, hrd, rfl⟩
  · rw [a1, a2, if_pos rfl, Option.bind_some]
    exact zwp_t rfl (zwp_some rfl)
  · rw [(zread_1 hrd).1, (zread_1 hrd).2, if_neg (by decide : ¬ (1 : Int32) = 0), Option.bind_some]
    refine zwp_f (by decide) (zwp_ret (rp_print hq h4.1 rd hrd (h4.2.2 rd hrd) s1 s2 s3 s4 s5 oc tkm e1 e2 e3 e4 e5 e6 e7 e8 e9 o t) (fun r hr => ?_))
    have ho : zro r.2.2.2.2.2.1 r.2.2.2.2.2.2.2.2.2.2.2.2.2.2.2.2.1 (zPx l rd) := hr.2
    show _ = r.2.2.2.2.2.1
    rw [ho.1]
    have hr' : rd = 0 ∨ rd = 1 ∨ rd = 2 ∨ rd = 3 := by omega
    rcases hr' with rfl | rfl | rfl | rfl
    · rw [if_neg (show ¬ nI 0 = (1 : Int32) by decide), if_neg (show ¬ nI 0 = (2 : Int32) by decide), if_neg (show ¬ nI 0 = (3 : Int32) by decide)]; exact hp.1.1
    · rw [if_pos (show nI 1 = (1 : Int32) from rfl)]; exact hp.2.1.1
    · rw [if_neg (show ¬ nI 2 = (1 : Int32) by decide), if_pos (show nI 2 = (2 : Int32) from rfl)]; exact hp.2.2.1.1
    · rw [if_neg (show ¬ nI 3 = (1 : Int32) by decide), if_neg (show ¬ nI 3 = (2 : Int32) by decide), if_pos (show nI 3 = (3 : Int32) from rfl)]; exact hp.2.2.2.1.1
theorem o_printedChar (h4 : zfour l) (hq : zqr mk ma l) (hp : zpr4 pc pf tc tf wc wf bc bf (zPx l)) (x y : Int32) : zw2 (fn_Parser_printedCharacter pc pf tc tf wc wf bc bf x y) (fn_Ref_printedCharacter (nI l.length) s1 s2 s3 s4 s5 oc tkm mk ma e1 e2 e3 e4 e5 e6 e7 e8 e9 o t x y) (fun a b => a = b.1) := by
  unfold fn_Ref_printedCharacter fn_Parser_printedCharacter
  rcases zread x with ⟨a1, a2⟩ | ⟨rd, hrd, rfl⟩
  · rw [a1, a2, if_pos rfl, Option.bind_some, if_pos rfl]
    exact ⟨_, _, rfl, rfl, rfl⟩
  rw [(zread_1 hrd).1, (zread_1 hrd).2, if_neg (by decide : ¬ (1 : Int32) = 0), Option.bind_some, if_neg (by decide : ¬ (1 : Int32) = 0)]
  rcases zindex y with hy | ⟨i, hi, rfl⟩
  · rw [if_neg hy, if_neg hy]; exact ⟨_, _, rfl, rfl, rfl⟩
  rw [if_pos (nI_pos' hi), if_pos (nI_pos' hi)]
  have hlen : (zPx l rd).length ≤ 320 := (zfitw_P (h4.2.2 rd hrd)).1
  refine zw2_i (P := fun a => a = if i < (zPx l rd).length then nI ((zPx l rd).getD i 0) else -3) (Q := fun b => b.1 = if i < (zPx l rd).length then nI ((zPx l rd).getD i 0) else -3) ?_ ?_ (fun a b ha hb => ha.trans hb.symm)
  · have hr' : rd = 0 ∨ rd = 1 ∨ rd = 2 ∨ rd = 3 := by omega
    rcases hr' with rfl | rfl | rfl | rfl
    · refine zwp_f (by decide) (zwp_f (by decide) (zwp_f (by decide) ?_))
      rw [sp_at (by decide) hp.1 i hi]
      exact zwp_some rfl
    · refine zwp_t rfl ?_
      rw [sp_at (by decide) hp.2.1 i hi]
      exact zwp_some rfl
    · refine zwp_f (by decide) (zwp_t rfl ?_)
      rw [sp_at (by decide) hp.2.2.1 i hi]
      exact zwp_some rfl
    · refine zwp_f (by decide) (zwp_f (by decide) (zwp_t rfl ?_))
      rw [sp_at (by decide) hp.2.2.2.1 i hi]
      exact zwp_some rfl
  · refine zwp_seq (rp_print hq h4.1 rd hrd (h4.2.2 rd hrd) s1 s2 s3 s4 s5 oc tkm e1 e2 e3 e4 e5 e6 e7 e8 e9 o t) (fun r hr => ?_)
    have ho : zro r.2.2.2.2.2.1 r.2.2.2.2.2.2.2.2.2.2.2.2.2.2.2.2.1 (zPx l rd) := hr.2
    rw [ho.1]
    by_cases hlt : i < (zPx l rd).length
    · refine zwp_f (nI_ge hlt (by omega)) (zwp_f (nI_in (by omega) (by omega)) (zwp_some ?_))
      rw [if_pos hlt, nI_clamp hi]; exact zrw_getD ho.2 hlt
    · refine zwp_t (nI_le (by omega) hi) (zwp_some ?_)
      rw [if_neg hlt]
/-- the four spoken rows -/
def zsp4 (pc : Int32) (pf : Nat → Int32) (tc : Int32) (tf : Nat → Int32) (wc : Int32) (wf : Nat → Int32) (bc : Int32) (bf : Nat → Int32) (P : Nat → List Nat) : Prop :=
  zstr 1440 pc pf (P 0) ∧ zstr 1440 tc tf (P 1) ∧ zstr 1440 wc wf (P 2) ∧ zstr 1440 bc bf (P 3)
theorem o_speechLen (h4 : zfour l) (hq : zqr mk ma l) (hp : zsp4 pc pf tc tf wc wf bc bf (zVx l)) (x : Int32) : zwp (fn_Ref_speechLength (nI l.length) s1 s2 s3 s4 s5 oc tkm mk ma e1 e2 e3 e4 e5 e6 e7 e8 e9 o t x) (fun b => fn_Parser_speechLength pc tc wc bc x = b.1) := by
  unfold fn_Ref_speechLength fn_Parser_speechLength fn_CharRow_size
  rcases zread x with ⟨a1, a2⟩ | ⟨rd, hrd, rfl⟩
  · rw [a1, a2, if_pos rfl, Option.bind_some]
    exact zwp_t rfl (zwp_some rfl)
  · rw [(zread_1 hrd).1, (zread_1 hrd).2, if_neg (by decide : ¬ (1 : Int32) = 0), Option.bind_some]
    refine zwp_f (by decide) (zwp_ret (rp_speak hq h4.1 rd hrd (h4.2.2 rd hrd) s1 s2 s3 s4 s5 oc tkm e1 e2 e3 e4 e5 e6 e7 e8 e9 o t) (fun r hr => ?_))
    have ho : zro r.2.2.2.2.2.1 r.2.2.2.2.2.2.2.2.2.2.2.2.2.2.2.2.1 (zVx l rd) := hr.2
    show _ = r.2.2.2.2.2.1
    rw [ho.1]
    have hr' : rd = 0 ∨ rd = 1 ∨ rd = 2 ∨ rd = 3 := by omega
    rcases hr' with rfl | rfl | rfl | rfl
    · rw [if_neg (show ¬ nI 0 = (1 : Int32) by decide), if_neg (show ¬ nI 0 = (2 : Int32) by decide), if_neg (show ¬ nI 0 = (3 : Int32) by decide)]; exact hp.1.1
    · rw [if_pos (show nI 1 = (1 : Int32) from rfl)]; exact hp.2.1.1
    · rw [if_neg (show ¬ nI 2 = (1 : Int32) by decide), if_pos (show nI 2 = (2 : Int32) from rfl)]; exact hp.2.2.1.1
    · rw [if_neg (show ¬ nI 3 = (1 : Int32) by decide), if_neg (show ¬ nI 3 = (2 : Int32) by decide), if_pos (show nI 3 = (3 : Int32) from rfl)]; exact hp.2.2.2.1
theorem o_speechChar (h4 : zfour l) (hq : zqr mk ma l) (hp : zsp4 pc pf tc tf wc wf bc bf (zVx l)) (x y : Int32) : zw2 (fn_Parser_speechCharacter pc pf tc tf wc wf bc bf x y) (fn_Ref_speechCharacter (nI l.length) s1 s2 s3 s4 s5 oc tkm mk ma e1 e2 e3 e4 e5 e6 e7 e8 e9 o t x y) (fun a b => a = b.1) := by
  unfold fn_Ref_speechCharacter fn_Parser_speechCharacter
  rcases zread x with ⟨a1, a2⟩ | ⟨rd, hrd, rfl⟩
  · rw [a1, a2, if_pos rfl, Option.bind_some, if_pos rfl]
    exact ⟨_, _, rfl, rfl, rfl⟩
  rw [(zread_1 hrd).1, (zread_1 hrd).2, if_neg (by decide : ¬ (1 : Int32) = 0), Option.bind_some, if_neg (by decide : ¬ (1 : Int32) = 0)]
  rcases zindex y with hy | ⟨i, hi, rfl⟩
  · rw [if_neg hy, if_neg hy]; exact ⟨_, _, rfl, rfl, rfl⟩
  rw [if_pos (nI_pos' hi), if_pos (nI_pos' hi)]
  have hlen : (zVx l rd).length ≤ 1440 := (zfitw_P (h4.2.2 rd hrd)).2.1
  refine zw2_i (P := fun a => a = if i < (zVx l rd).length then nI ((zVx l rd).getD i 0) else -3) (Q := fun b => b.1 = if i < (zVx l rd).length then nI ((zVx l rd).getD i 0) else -3) ?_ ?_ (fun a b ha hb => ha.trans hb.symm)
  · have hr' : rd = 0 ∨ rd = 1 ∨ rd = 2 ∨ rd = 3 := by omega
    rcases hr' with rfl | rfl | rfl | rfl
    · refine zwp_f (by decide) (zwp_f (by decide) (zwp_f (by decide) ?_))
      rw [sp_at (by decide) hp.1 i hi]
      exact zwp_some rfl
    · refine zwp_t rfl ?_
      rw [sp_at (by decide) hp.2.1 i hi]
      exact zwp_some rfl
    · refine zwp_f (by decide) (zwp_t rfl ?_)
      rw [sp_at (by decide) hp.2.2.1 i hi]
      exact zwp_some rfl
    · refine zwp_f (by decide) (zwp_f (by decide) (zwp_t rfl ?_))
      rw [sp_at (by decide) hp.2.2.2 i hi]
      exact zwp_some rfl
  · refine zwp_seq (rp_speak hq h4.1 rd hrd (h4.2.2 rd hrd) s1 s2 s3 s4 s5 oc tkm e1 e2 e3 e4 e5 e6 e7 e8 e9 o t) (fun r hr => ?_)
    have ho : zro r.2.2.2.2.2.1 r.2.2.2.2.2.2.2.2.2.2.2.2.2.2.2.2.1 (zVx l rd) := hr.2
    rw [ho.1]
    by_cases hlt : i < (zVx l rd).length
    · refine zwp_f (nI_ge hlt (by omega)) (zwp_f (nI_in (by omega) (by omega)) (zwp_some ?_))
      rw [if_pos hlt, nI_clamp hi]; exact zrw_getD ho.2 hlt
    · refine zwp_t (nI_le (by omega) hi) (zwp_some ?_)
      rw [if_neg hlt]
theorem sp_putRowl {N M : Nat} (hN : N < 2 ^ 31) (hM : M < 2 ^ 31) {qc : Int32} {qf : Nat → Int32} {P : List Nat} (hp : zstr M qc qf P) (hb : ∀ c ∈ P, c < 128) : ∀ (n j : Nat) (c : Int32) (f : Nat → Int32) (tx : List Nat), j ≤ P.length → P.length - j < n → zstr N c f tx → tx.length + (P.length - j) ≤ N → zwp (fn_CharRow_putRow_L2 N M qc qf n c f (nI j)) (fun r => zstr N r.1 r.2 (tx ++ P.drop j))
  | 0, _, _, _, _, _, h, _, _ => absurd h (Nat.not_lt_zero _)
  | n + 1, j, c, f, tx, hj, hn, hs, hl => by
    have hlen := hp.2.1
    unfold fn_CharRow_putRow_L2 fn_CharRow_size
    by_cases he : j = P.length
    · refine zwp_t (by rw [hp.1]; exact nI_le (by omega) (by omega)) (zwp_some ?_)
      rw [he, List.drop_length, List.append_nil]; exact hs
    · have hlt : j < P.length := by omega
      refine zwp_f (by rw [hp.1]; exact nI_ge hlt (by omega)) ?_
      rw [sp_at hM hp j (by omega), Option.bind_some, if_pos hlt]
      have m1 : P.getD j 0 ∈ P := by rw [List.getD, List.getElem?_eq_getElem hlt]; exact List.getElem_mem hlt
      refine zwp_seq (sp_put hN hs (by omega) (hb _ m1)) (fun r hr => ?_)
      rw [nI_add1]
      refine zwp_mono (sp_putRowl hN hM hp hb n (j + 1) _ _ _ hlt (by omega) hr (by rw [List.length_append]; simp only [List.length_cons, List.length_nil]; omega)) (fun u hu => ?_)
      have e : P.drop j = P.getD j 0 :: P.drop (j + 1) := by
        rw [List.drop_eq_getElem_cons hlt, List.getD, List.getElem?_eq_getElem hlt]; rfl
      rw [e]
      rw [List.append_assoc] at hu
      exact hu
theorem rp_apl {ml : Int32} {P tx : List Nat} (ho : zro oc o P) (hml : ml = nI tx.length) (hl : tx.length + P.length ≤ 80) : ∀ (n j : Nat) (mt : Nat → Int32), j ≤ P.length → P.length - j < n → zrw mt nI (tx ++ P.take j) →
    zwp (fn_Ref_appendPrinted_L33 (nI l.length) mk ma n ml s1 s2 s3 s4 s5 oc tkm mt e1 e2 e3 e4 e5 e6 e7 e8 e9 o t (nI j)) (fun r => r.1 = nI (tx.length + P.length) ∧ zro r.2.1 r.2.2.2.2.2.2.2.2.2.1 (tx ++ P))
  | 0, _, _, _, h, _ => absurd h (Nat.not_lt_zero _)
  | n + 1, j, mt, hj, hn, hs => by
    unfold fn_Ref_appendPrinted_L33
    by_cases he : j = P.length
    · have e : ml + oc = nI (tx.length + P.length) := by rw [hml, ho.1, nI_add]
      rw [he, List.take_length] at hs
      refine zwp_t (by rw [ho.1]; exact nI_le (by omega) (by omega)) (zwp_some ⟨e, ?_, hs⟩)
      show ml + oc = _
      rw [e, List.length_append]
    · have hlt : j < P.length := by omega
      refine zwp_f (by rw [ho.1]; exact nI_ge hlt (by omega)) ?_
      rw [hml, nI_add, nI_add1, nI_clamp (by omega), nI_clamp (by omega)]
      refine zwp_f (nI_in2 (by omega) (by omega)) (zwp_f (nI_in2 (by omega) (by omega)) ?_)
      have hpush := zrw_push (f := mt) (g := nI) (l := tx ++ P.take j) (a := P.getD j 0) (x := o j) hs (zrw_getD ho.2 hlt)
      have el : (tx ++ P.take j).length = tx.length + j := by rw [List.length_append, List.length_take]; omega
      have et : tx ++ P.take j ++ [P.getD j 0] = tx ++ P.take (j + 1) := by
        rw [List.append_assoc, List.take_succ_eq_append_getElem hlt, List.getD, List.getElem?_eq_getElem hlt]; rfl
      rw [el, et] at hpush
      rw [← hml]
      exact rp_apl ho hml hl n (j + 1) _ hlt (by omega) hpush
theorem o_app {nc ml : Int32} {cf mt : Nat → Int32} {tx : List Nat} (h4 : zfour l) (hq : zqr mk ma l) (hp : zpr4 pc pf tc tf wc wf bc bf (zPx l)) (hx : ztx tx) (h1 : zstr 80 nc cf tx) (h2 : zro ml mt tx) (x : Int32) :
    zw2 (fn_Parser_appendPrinted nc cf pc pf tc tf wc wf bc bf x) (fn_Ref_appendPrinted ml (nI l.length) s1 s2 s3 s4 s5 oc tkm mt mk ma e1 e2 e3 e4 e5 e6 e7 e8 e9 o t x) (fun a b => a.1 = b.1 ∧ ∃ u, ztx u ∧ zstr 80 a.2.1 a.2.2 u ∧ zro b.2.1 b.2.2.2.2.2.2.2.2.2.1 u) := by
  have hlx := hx.1
  unfold fn_Parser_appendPrinted fn_Ref_appendPrinted fn_CharRow_putRow fn_CharRow_size fn_CharRow_room
  rcases zread x with ⟨a1, a2⟩ | ⟨rd, hrd, rfl⟩
  · rw [a1, a2, if_pos rfl, Option.bind_some, if_pos rfl]
    exact ⟨_, _, rfl, rfl, rfl, tx, hx, h1, h2⟩
  rw [(zread_1 hrd).1, (zread_1 hrd).2, if_neg (by decide : ¬ (1 : Int32) = 0), Option.bind_some, if_neg (by decide : ¬ (1 : Int32) = 0)]
  obtain ⟨p1, -, p3⟩ := zfitw_P (h4.2.2 rd hrd)
  have p1' : (zPx l rd).length ≤ 320 := p1
  have p3' : ∀ c ∈ zPx l rd, 32 < c ∧ c < 127 := p3
  have er : nI 80 - nc = nI (80 - tx.length) := by rw [h1.1, nI_sub hlx]
  rw [er]
  have hcls : ∀ (qc : Int32) (qf : Nat → Int32), zstr 320 qc qf (zPx l rd) → zwp (if qc ≤ nI (80 - tx.length) then (fn_CharRow_putRow_L2 80 320 qc qf zFU nc cf 0).bind fun q => some (q.1, q.1, q.2) else some (-4, nc, cf)) (fun a => if (zPx l rd).length ≤ 80 - tx.length then a.1 = nI (tx.length + (zPx l rd).length) ∧ zstr 80 a.2.1 a.2.2 (tx ++ zPx l rd) else a.1 = -4 ∧ zstr 80 a.2.1 a.2.2 tx) := by
    intro qc qf hz
    by_cases hle : (zPx l rd).length ≤ 80 - tx.length
    · simp only [if_pos hle]
      refine zwp_t (by rw [hz.1]; exact nI_le hle (by omega)) (zwp_ret (sp_putRowl (by decide) (by decide) hz (fun c hc => by have := p3' c hc; omega) zFU 0 nc cf tx (Nat.zero_le _) (Nat.lt_of_le_of_lt (by omega : _ - 0 ≤ 320) (by decide)) h1 (by omega)) (fun r hr => ?_))
      rw [List.drop_zero] at hr
      exact ⟨by show r.1 = _; rw [hr.1, List.length_append], hr⟩
    · simp only [if_neg hle]
      exact zwp_f (by rw [hz.1]; exact nI_ge (by omega) (by omega)) (zwp_some ⟨rfl, h1⟩)
  refine zw2_i (P := fun a => if (zPx l rd).length ≤ 80 - tx.length then a.1 = nI (tx.length + (zPx l rd).length) ∧ zstr 80 a.2.1 a.2.2 (tx ++ zPx l rd) else a.1 = -4 ∧ zstr 80 a.2.1 a.2.2 tx) (Q := fun b => if (zPx l rd).length ≤ 80 - tx.length then b.1 = nI (tx.length + (zPx l rd).length) ∧ zro b.2.1 b.2.2.2.2.2.2.2.2.2.1 (tx ++ zPx l rd) else b.1 = -4 ∧ zro b.2.1 b.2.2.2.2.2.2.2.2.2.1 tx) ?_ ?_ (fun a b ha hb => ?_)
  · have hr' : rd = 0 ∨ rd = 1 ∨ rd = 2 ∨ rd = 3 := by omega
    rcases hr' with rfl | rfl | rfl | rfl
    · refine zwp_f (by decide) (zwp_f (by decide) (zwp_f (by decide) ?_))
      exact hcls _ _ hp.1
    · refine zwp_t rfl ?_
      exact hcls _ _ hp.2.1
    · refine zwp_f (by decide) (zwp_t rfl ?_)
      exact hcls _ _ hp.2.2.1
    · refine zwp_f (by decide) (zwp_f (by decide) (zwp_t rfl ?_))
      exact hcls _ _ hp.2.2.2.1
  · refine zwp_seq (rp_print hq h4.1 rd hrd (h4.2.2 rd hrd) s1 s2 s3 s4 s5 oc tkm e1 e2 e3 e4 e5 e6 e7 e8 e9 o t) (fun r hr => ?_)
    have ho : zro r.2.2.2.2.2.1 r.2.2.2.2.2.2.2.2.2.2.2.2.2.2.2.2.1 (zPx l rd) := hr.2
    have es : ml + r.2.2.2.2.2.1 = nI (tx.length + (zPx l rd).length) := by rw [h2.1, ho.1, nI_add]
    by_cases hle : (zPx l rd).length ≤ 80 - tx.length
    · simp only [if_pos hle]
      refine zwp_t (by rw [es]; exact nI_le (b := 80) (by omega) (by omega)) ?_
      exact rp_apl ho h2.1 (by omega) zFU 0 mt (Nat.zero_le _) (Nat.lt_of_le_of_lt (by omega : (zPx l rd).length - 0 ≤ 320) (by decide)) (by rw [List.take_zero, List.append_nil]; exact h2.2)
    · simp only [if_neg hle]
      exact zwp_f (by rw [es]; exact nI_ge (a := 80) (by omega) (by omega)) (zwp_some ⟨rfl, h2⟩)
  · by_cases hle : (zPx l rd).length ≤ 80 - tx.length
    · rw [if_pos hle] at ha hb
      refine ⟨ha.1.trans hb.1.symm, tx ++ zPx l rd, ⟨by rw [List.length_append]; omega, fun c hc => ?_⟩, ha.2, hb.2⟩
      rcases List.mem_append.mp hc with hc | hc
      · exact hx.2 c hc
      · have := p3' c hc; omega
    · rw [if_neg hle] at ha hb
      exact ⟨ha.1.trans hb.1.symm, tx, hx, ha.2, hb.2⟩
end Q2
/-! accept on both sides. -/
theorem zlinks {t w : Bool} {l : List (Nat × Nat × Nat)} (hf : zform l) {sf : Nat × Nat × Nat × Nat × Nat} (h1 : zgo zs0 l = some sf) (hw : zfitw (zbuild t w l).1 (zbuild t w l).2) : (zR (zJ (zbuild t w l).2)).length = sf.2.2.1 := by
  obtain ⟨-, h3, h4⟩ := hf
  have key : ∀ (rest : List (Nat × Nat × Nat)) (i : Nat) (σ : Nat × Nat × Nat × Nat × Nat) (b : zBt), (∀ q ∈ rest, zkok q) → zinv σ i b.1 b.2.1 b.2.2.1 b.2.2.2.1 → zinw false σ b.2.2.1 b.2.2.2.1 b.2.2.2.2 → zgo σ rest = some sf →
      (zrels (zbgo t w σ b rest).2.2.2.1 (zbgo t w σ b rest).2.2.2.2).length = sf.2.2.1 := by
    intro rest
    induction rest with
    | nil => intro i σ b _ a1 a2 a5; cases a5; exact a2.2.1
    | cons q rest ih =>
      intro i σ b hq a1 a2 a5
      obtain ⟨s', hz, hgo'⟩ := zgo_step a5
      have hk := hq q (by simp)
      have e : zbgo t w σ b (q :: rest) = zbgo t w s' (ztk t w (decide (σ.1 = 3)) q.1 q.2.1 b.1 b.2.1 b.2.2.1 b.2.2.2.1 b.2.2.2.2) rest := by
        rw [zbgo, hz]
      rw [e]
      exact ih (i + 1) s' _ (fun x hx => hq x (by simp [hx])) (zinv_step a1 hz hk.1) (zinw_step' (t := t) (w := w) (d := q.2.1) a1 a2 hz hk.1) hgo'
  have := key l 0 zs0 ([], [], [], [], 0) h3 zinv_0 ⟨fun h => (by cases h), rfl, fun h => (by cases h)⟩ h1
  rw [← this]
  have e1 : zrels (zbgo t w zs0 ([], [], [], [], 0) l).2.2.2.1 (zbgo t w zs0 ([], [], [], [], 0) l).2.2.2.2 = zR ((zbuild t w l).2.map (fun q => q.1)) := by
    unfold zrels zR zbuild
    rw [List.map_append]; rfl
  rw [e1, (zfit_J hw).1]
  rfl
/-- whether a text is a formula -/
def zaccB (tx : List Nat) : Bool := match zgo zs0 (zTK tx) with
  | some s => decide (s.1 = 3 ∧ s.2.1 = 0 ∧ s.2.2.2.2 = 0)
  | none => false
def zaccL (tx : List Nat) (l : List (Nat × Nat × Nat)) : List (Nat × Nat × Nat) := if zaccB tx = true then zTK tx else l
def zaccA (tx : List Nat) : Int32 := if zaccB tx = true then nI (zR (zJ (zSu (zTK tx) 0))).length else -2
section AC
variable {tx : List Nat}
theorem zacc_t (hx : ztx tx) (h : zaccB tx = true) : zform (zTK tx) ∧ ∃ s, zgo zs0 (zTK tx) = some s ∧ zfin s := by
  unfold zaccB at h
  cases hg : zgo zs0 (zTK tx) with
  | none => rw [hg] at h; cases h
  | some s =>
    rw [hg] at h
    have hs : zfin s := of_decide_eq_true (p := s.1 = 3 ∧ s.2.1 = 0 ∧ s.2.2.2.2 = 0) h
    exact ⟨⟨⟨s, hg, hs⟩, (zTK_ok hx).2.1, (zTK_ok hx).1⟩, s, rfl, hs⟩
theorem zacc_f (h : zaccB tx = false) {s : Nat × Nat × Nat × Nat × Nat} (hg : zgo zs0 (zTK tx) = some s) : ¬ zfin s := by
  unfold zaccB at h
  rw [hg] at h
  exact of_decide_eq_false (p := s.1 = 3 ∧ s.2.1 = 0 ∧ s.2.2.2.2 = 0) h
theorem zbad_none {l : List (Nat × Nat × Nat)} : ∀ {σ s : Nat × Nat × Nat × Nat × Nat}, zgo σ l = some s → zbad σ l = none := by
  induction l with
  | nil => intro σ s _; rfl
  | cons q l ih =>
    intro σ s h
    obtain ⟨s', h1, h2⟩ := zgo_step h
    unfold zbad
    rw [h1]; exact ih h2
theorem ztoks_pos : ∀ (f p : Nat) (s : List Nat), (∀ c ∈ s, c < 127) → ∀ q ∈ ztoks f p s, q.2.2 < p + s.length
  | 0, _, _, _ => fun q hq => by simp [ztoks] at hq
  | _ + 1, _, [], _ => fun q hq => by simp [ztoks] at hq
  | f + 1, p, c :: t, h => by
    intro q hq
    unfold ztoks at hq
    split at hq
    · have := ztoks_pos f (p + 1) t (fun x hx => h x (by simp [hx])) q hq
      simp only [List.length_cons]; omega
    · rcases List.mem_cons.mp hq with rfl | hq
      · simp only [List.length_cons]; omega
      · have := ztoks_pos f (p + (ztok (c :: t)).2.2) ((c :: t).drop (ztok (c :: t)).2.2) (fun x hx => h x (List.mem_of_mem_drop hx)) q hq
        rw [List.length_drop] at this
        have h1 := (ztok_w (c := c) (t := t) (h c (by simp))).2
        simp only [List.length_cons] at this h1 ⊢
        omega
theorem zTK_pos (hx : ztx tx) : ∀ q ∈ zTK tx, q.2.2 < 80 := by
  intro q hq
  have := ztoks_pos (tx.length + 1) 0 tx (fun c hc => (hx.2 c hc).2) q hq
  have := hx.1
  omega
theorem zbad_mem {l : List (Nat × Nat × Nat)} : ∀ {σ : Nat × Nat × Nat × Nat × Nat} {q : Nat × Nat × Nat}, zbad σ l = some q → q ∈ l := by
  induction l with
  | nil => intro σ q h; cases h
  | cons a l ih =>
    intro σ q h
    unfold zbad at h
    split at h
    · cases h; simp
    · exact List.mem_cons_of_mem _ (ih h)
/-- a reading: its tree, its printed and its spoken text -/
def zRdg (l : List (Nat × Nat × Nat)) (rd : Nat) (tc ts : Int32) (tk td tl tr to tj : Nat → Int32) (qc : Int32) (qf : Nat → Int32) (uc : Int32) (uf : Nat → Int32) : Prop :=
  zctree tc ts tk td tl tr to tj (zNd l rd) (zSu l rd) ∧ zstr 320 qc qf (zPx l rd) ∧ zstr 1440 uc uf (zVx l rd)
theorem sp_acl (hx : ztx tx) (hf : zform (zTK tx)) (n_text_count : Int32) (n_text_characters : Nat → Int32) : ∀ (n x : Nat) (n_tokens_count : Int32) (n_tokens_kinds : Nat → Int32) (n_tokens_starts : Nat → Int32) (n_tokens_details : Nat → Int32) (n_syntax_state : Int32) (n_syntax_depth : Int32) (n_syntax_links : Int32) (n_syntax_primes : Int32) (n_syntax_dotsDue : Int32) (n_printer_work_count : Int32) (n_printer_work_items : Nat → Int32) (n_speaker_work_count : Int32) (n_speaker_work_items : Nat → Int32) (n_plain_tree_count : Int32) (n_plain_tree_sums : Int32) (n_plain_tree_kinds : Nat → Int32) (n_plain_tree_details : Nat → Int32) (n_plain_tree_lefts : Nat → Int32) (n_plain_tree_rights : Nat → Int32) (n_plain_tree_roots : Nat → Int32) (n_plain_tree_joints : Nat → Int32) (n_plain_builder_afterOperand : Int32) (n_plain_builder_joint : Int32) (n_plain_builder_operands_count : Int32) (n_plain_builder_operands_items : Nat → Int32) (n_plain_builder_operators_count : Int32) (n_plain_builder_operators_items : Nat → Int32) (n_plain_builder_primes_count : Int32) (n_plain_builder_primes_items : Nat → Int32) (n_plain_printed_count : Int32) (n_plain_printed_characters : Nat → Int32) (n_plain_spoken_count : Int32) (n_plain_spoken_characters : Nat → Int32) (n_tight_tree_count : Int32) (n_tight_tree_sums : Int32) (n_tight_tree_kinds : Nat → Int32) (n_tight_tree_details : Nat → Int32) (n_tight_tree_lefts : Nat → Int32) (n_tight_tree_rights : Nat → Int32) (n_tight_tree_roots : Nat → Int32) (n_tight_tree_joints : Nat → Int32) (n_tight_builder_afterOperand : Int32) (n_tight_builder_joint : Int32) (n_tight_builder_operands_count : Int32) (n_tight_builder_operands_items : Nat → Int32) (n_tight_builder_operators_count : Int32) (n_tight_builder_operators_items : Nat → Int32) (n_tight_builder_primes_count : Int32) (n_tight_builder_primes_items : Nat → Int32) (n_tight_printed_count : Int32) (n_tight_printed_characters : Nat → Int32) (n_tight_spoken_count : Int32) (n_tight_spoken_characters : Nat → Int32) (n_wide_tree_count : Int32) (n_wide_tree_sums : Int32) (n_wide_tree_kinds : Nat → Int32) (n_wide_tree_details : Nat → Int32) (n_wide_tree_lefts : Nat → Int32) (n_wide_tree_rights : Nat → Int32) (n_wide_tree_roots : Nat → Int32) (n_wide_tree_joints : Nat → Int32) (n_wide_builder_afterOperand : Int32) (n_wide_builder_joint : Int32) (n_wide_builder_operands_count : Int32) (n_wide_builder_operands_items : Nat → Int32) (n_wide_builder_operators_count : Int32) (n_wide_builder_operators_items : Nat → Int32) (n_wide_builder_primes_count : Int32) (n_wide_builder_primes_items : Nat → Int32) (n_wide_printed_count : Int32) (n_wide_printed_characters : Nat → Int32) (n_wide_spoken_count : Int32) (n_wide_spoken_characters : Nat → Int32) (n_tightAndWide_tree_count : Int32) (n_tightAndWide_tree_sums : Int32) (n_tightAndWide_tree_kinds : Nat → Int32) (n_tightAndWide_tree_details : Nat → Int32) (n_tightAndWide_tree_lefts : Nat → Int32) (n_tightAndWide_tree_rights : Nat → Int32) (n_tightAndWide_tree_roots : Nat → Int32) (n_tightAndWide_tree_joints : Nat → Int32) (n_tightAndWide_builder_afterOperand : Int32) (n_tightAndWide_builder_joint : Int32) (n_tightAndWide_builder_operands_count : Int32) (n_tightAndWide_builder_operands_items : Nat → Int32) (n_tightAndWide_builder_operators_count : Int32) (n_tightAndWide_builder_operators_items : Nat → Int32) (n_tightAndWide_builder_primes_count : Int32) (n_tightAndWide_builder_primes_items : Nat → Int32) (n_tightAndWide_printed_count : Int32) (n_tightAndWide_printed_characters : Nat → Int32) (n_tightAndWide_spoken_count : Int32) (n_tightAndWide_spoken_characters : Nat → Int32), x ≤ 4 → 4 - x < n → zqs n_tokens_count n_tokens_kinds n_tokens_starts n_tokens_details (zTK tx) → (∃ p, p ≤ 3 ∧ n_syntax_primes = nI p) →
    (0 < x → zRdg (zTK tx) 0 n_plain_tree_count n_plain_tree_sums n_plain_tree_kinds n_plain_tree_details n_plain_tree_lefts n_plain_tree_rights n_plain_tree_roots n_plain_tree_joints n_plain_printed_count n_plain_printed_characters n_plain_spoken_count n_plain_spoken_characters) → (1 < x → zRdg (zTK tx) 1 n_tight_tree_count n_tight_tree_sums n_tight_tree_kinds n_tight_tree_details n_tight_tree_lefts n_tight_tree_rights n_tight_tree_roots n_tight_tree_joints n_tight_printed_count n_tight_printed_characters n_tight_spoken_count n_tight_spoken_characters) → (2 < x → zRdg (zTK tx) 2 n_wide_tree_count n_wide_tree_sums n_wide_tree_kinds n_wide_tree_details n_wide_tree_lefts n_wide_tree_rights n_wide_tree_roots n_wide_tree_joints n_wide_printed_count n_wide_printed_characters n_wide_spoken_count n_wide_spoken_characters) → (3 < x → zRdg (zTK tx) 3 n_tightAndWide_tree_count n_tightAndWide_tree_sums n_tightAndWide_tree_kinds n_tightAndWide_tree_details n_tightAndWide_tree_lefts n_tightAndWide_tree_rights n_tightAndWide_tree_roots n_tightAndWide_tree_joints n_tightAndWide_printed_count n_tightAndWide_printed_characters n_tightAndWide_spoken_count n_tightAndWide_spoken_characters) →
    zwp (fn_Parser_acceptText_L31 n_text_count n_text_characters (zb2 false) (zb2 false) (zb2 true) (zb2 false) (zb2 false) (zb2 true) (zb2 true) (zb2 true) n n_tokens_count n_tokens_kinds n_tokens_starts n_tokens_details n_syntax_state n_syntax_depth n_syntax_links n_syntax_primes n_syntax_dotsDue n_printer_work_count n_printer_work_items n_speaker_work_count n_speaker_work_items n_plain_tree_count n_plain_tree_sums n_plain_tree_kinds n_plain_tree_details n_plain_tree_lefts n_plain_tree_rights n_plain_tree_roots n_plain_tree_joints n_plain_builder_afterOperand n_plain_builder_joint n_plain_builder_operands_count n_plain_builder_operands_items n_plain_builder_operators_count n_plain_builder_operators_items n_plain_builder_primes_count n_plain_builder_primes_items n_plain_printed_count n_plain_printed_characters n_plain_spoken_count n_plain_spoken_characters n_tight_tree_count n_tight_tree_sums n_tight_tree_kinds n_tight_tree_details n_tight_tree_lefts n_tight_tree_rights n_tight_tree_roots n_tight_tree_joints n_tight_builder_afterOperand n_tight_builder_joint n_tight_builder_operands_count n_tight_builder_operands_items n_tight_builder_operators_count n_tight_builder_operators_items n_tight_builder_primes_count n_tight_builder_primes_items n_tight_printed_count n_tight_printed_characters n_tight_spoken_count n_tight_spoken_characters n_wide_tree_count n_wide_tree_sums n_wide_tree_kinds n_wide_tree_details n_wide_tree_lefts n_wide_tree_rights n_wide_tree_roots n_wide_tree_joints n_wide_builder_afterOperand n_wide_builder_joint n_wide_builder_operands_count n_wide_builder_operands_items n_wide_builder_operators_count n_wide_builder_operators_items n_wide_builder_primes_count n_wide_builder_primes_items n_wide_printed_count n_wide_printed_characters n_wide_spoken_count n_wide_spoken_characters n_tightAndWide_tree_count n_tightAndWide_tree_sums n_tightAndWide_tree_kinds n_tightAndWide_tree_details n_tightAndWide_tree_lefts n_tightAndWide_tree_rights n_tightAndWide_tree_roots n_tightAndWide_tree_joints n_tightAndWide_builder_afterOperand n_tightAndWide_builder_joint n_tightAndWide_builder_operands_count n_tightAndWide_builder_operands_items n_tightAndWide_builder_operators_count n_tightAndWide_builder_operators_items n_tightAndWide_builder_primes_count n_tightAndWide_builder_primes_items n_tightAndWide_printed_count n_tightAndWide_printed_characters n_tightAndWide_spoken_count n_tightAndWide_spoken_characters (nI x)) (fun r => r.1 = nI (zR (zJ (zSu (zTK tx) 0))).length ∧ (∃ p, p ≤ 3 ∧ r.2.2.2.2.2.2.2.2.1 = nI p) ∧ zRdg (zTK tx) 0 r.2.2.2.2.2.2.2.2.2.2.2.2.2.2.1 r.2.2.2.2.2.2.2.2.2.2.2.2.2.2.2.1 r.2.2.2.2.2.2.2.2.2.2.2.2.2.2.2.2.1 r.2.2.2.2.2.2.2.2.2.2.2.2.2.2.2.2.2.1 r.2.2.2.2.2.2.2.2.2.2.2.2.2.2.2.2.2.2.1 r.2.2.2.2.2.2.2.2.2.2.2.2.2.2.2.2.2.2.2.1 r.2.2.2.2.2.2.2.2.2.2.2.2.2.2.2.2.2.2.2.2.1 r.2.2.2.2.2.2.2.2.2.2.2.2.2.2.2.2.2.2.2.2.2.1 r.2.2.2.2.2.2.2.2.2.2.2.2.2.2.2.2.2.2.2.2.2.2.2.2.2.2.2.2.2.2.1 r.2.2.2.2.2.2.2.2.2.2.2.2.2.2.2.2.2.2.2.2.2.2.2.2.2.2.2.2.2.2.2.1 r.2.2.2.2.2.2.2.2.2.2.2.2.2.2.2.2.2.2.2.2.2.2.2.2.2.2.2.2.2.2.2.2.1 r.2.2.2.2.2.2.2.2.2.2.2.2.2.2.2.2.2.2.2.2.2.2.2.2.2.2.2.2.2.2.2.2.2.1 ∧ zRdg (zTK tx) 1 r.2.2.2.2.2.2.2.2.2.2.2.2.2.2.2.2.2.2.2.2.2.2.2.2.2.2.2.2.2.2.2.2.2.2.1 r.2.2.2.2.2.2.2.2.2.2.2.2.2.2.2.2.2.2.2.2.2.2.2.2.2.2.2.2.2.2.2.2.2.2.2.1 r.2.2.2.2.2.2.2.2.2.2.2.2.2.2.2.2.2.2.2.2.2.2.2.2.2.2.2.2.2.2.2.2.2.2.2.2.1 r.2.2.2.2.2.2.2.2.2.2.2.2.2.2.2.2.2.2.2.2.2.2.2.2.2.2.2.2.2.2.2.2.2.2.2.2.2.1 r.2.2.2.2.2.2.2.2.2.2.2.2.2.2.2.2.2.2.2.2.2.2.2.2.2.2.2.2.2.2.2.2.2.2.2.2.2.2.1 r.2.2.2.2.2.2.2.2.2.2.2.2.2.2.2.2.2.2.2.2.2.2.2.2.2.2.2.2.2.2.2.2.2.2.2.2.2.2.2.1 r.2.2.2.2.2.2.2.2.2.2.2.2.2.2.2.2.2.2.2.2.2.2.2.2.2.2.2.2.2.2.2.2.2.2.2.2.2.2.2.2.1 r.2.2.2.2.2.2.2.2.2.2.2.2.2.2.2.2.2.2.2.2.2.2.2.2.2.2.2.2.2.2.2.2.2.2.2.2.2.2.2.2.2.1 r.2.2.2.2.2.2.2.2.2.2.2.2.2.2.2.2.2.2.2.2.2.2.2.2.2.2.2.2.2.2.2.2.2.2.2.2.2.2.2.2.2.2.2.2.2.2.2.2.2.2.1 r.2.2.2.2.2.2.2.2.2.2.2.2.2.2.2.2.2.2.2.2.2.2.2.2.2.2.2.2.2.2.2.2.2.2.2.2.2.2.2.2.2.2.2.2.2.2.2.2.2.2.2.1 r.2.2.2.2.2.2.2.2.2.2.2.2.2.2.2.2.2.2.2.2.2.2.2.2.2.2.2.2.2.2.2.2.2.2.2.2.2.2.2.2.2.2.2.2.2.2.2.2.2.2.2.2.1 r.2.2.2.2.2.2.2.2.2.2.2.2.2.2.2.2.2.2.2.2.2.2.2.2.2.2.2.2.2.2.2.2.2.2.2.2.2.2.2.2.2.2.2.2.2.2.2.2.2.2.2.2.2.1 ∧ zRdg (zTK tx) 2 r.2.2.2.2.2.2.2.2.2.2.2.2.2.2.2.2.2.2.2.2.2.2.2.2.2.2.2.2.2.2.2.2.2.2.2.2.2.2.2.2.2.2.2.2.2.2.2.2.2.2.2.2.2.2.1 r.2.2.2.2.2.2.2.2.2.2.2.2.2.2.2.2.2.2.2.2.2.2.2.2.2.2.2.2.2.2.2.2.2.2.2.2.2.2.2.2.2.2.2.2.2.2.2.2.2.2.2.2.2.2.2.1 r.2.2.2.2.2.2.2.2.2.2.2.2.2.2.2.2.2.2.2.2.2.2.2.2.2.2.2.2.2.2.2.2.2.2.2.2.2.2.2.2.2.2.2.2.2.2.2.2.2.2.2.2.2.2.2.2.1 r.2.2.2.2.2.2.2.2.2.2.2.2.2.2.2.2.2.2.2.2.2.2.2.2.2.2.2.2.2.2.2.2.2.2.2.2.2.2.2.2.2.2.2.2.2.2.2.2.2.2.2.2.2.2.2.2.2.1 r.2.2.2.2.2.2.2.2.2.2.2.2.2.2.2.2.2.2.2.2.2.2.2.2.2.2.2.2.2.2.2.2.2.2.2.2.2.2.2.2.2.2.2.2.2.2.2.2.2.2.2.2.2.2.2.2.2.2.1 r.2.2.2.2.2.2.2.2.2.2.2.2.2.2.2.2.2.2.2.2.2.2.2.2.2.2.2.2.2.2.2.2.2.2.2.2.2.2.2.2.2.2.2.2.2.2.2.2.2.2.2.2.2.2.2.2.2.2.2.1 r.2.2.2.2.2.2.2.2.2.2.2.2.2.2.2.2.2.2.2.2.2.2.2.2.2.2.2.2.2.2.2.2.2.2.2.2.2.2.2.2.2.2.2.2.2.2.2.2.2.2.2.2.2.2.2.2.2.2.2.2.1 r.2.2.2.2.2.2.2.2.2.2.2.2.2.2.2.2.2.2.2.2.2.2.2.2.2.2.2.2.2.2.2.2.2.2.2.2.2.2.2.2.2.2.2.2.2.2.2.2.2.2.2.2.2.2.2.2.2.2.2.2.2.1 r.2.2.2.2.2.2.2.2.2.2.2.2.2.2.2.2.2.2.2.2.2.2.2.2.2.2.2.2.2.2.2.2.2.2.2.2.2.2.2.2.2.2.2.2.2.2.2.2.2.2.2.2.2.2.2.2.2.2.2.2.2.2.2.2.2.2.2.2.2.2.1 r.2.2.2.2.2.2.2.2.2.2.2.2.2.2.2.2.2.2.2.2.2.2.2.2.2.2.2.2.2.2.2.2.2.2.2.2.2.2.2.2.2.2.2.2.2.2.2.2.2.2.2.2.2.2.2.2.2.2.2.2.2.2.2.2.2.2.2.2.2.2.2.1 r.2.2.2.2.2.2.2.2.2.2.2.2.2.2.2.2.2.2.2.2.2.2.2.2.2.2.2.2.2.2.2.2.2.2.2.2.2.2.2.2.2.2.2.2.2.2.2.2.2.2.2.2.2.2.2.2.2.2.2.2.2.2.2.2.2.2.2.2.2.2.2.2.1 r.2.2.2.2.2.2.2.2.2.2.2.2.2.2.2.2.2.2.2.2.2.2.2.2.2.2.2.2.2.2.2.2.2.2.2.2.2.2.2.2.2.2.2.2.2.2.2.2.2.2.2.2.2.2.2.2.2.2.2.2.2.2.2.2.2.2.2.2.2.2.2.2.2.1 ∧ zRdg (zTK tx) 3 r.2.2.2.2.2.2.2.2.2.2.2.2.2.2.2.2.2.2.2.2.2.2.2.2.2.2.2.2.2.2.2.2.2.2.2.2.2.2.2.2.2.2.2.2.2.2.2.2.2.2.2.2.2.2.2.2.2.2.2.2.2.2.2.2.2.2.2.2.2.2.2.2.2.2.1 r.2.2.2.2.2.2.2.2.2.2.2.2.2.2.2.2.2.2.2.2.2.2.2.2.2.2.2.2.2.2.2.2.2.2.2.2.2.2.2.2.2.2.2.2.2.2.2.2.2.2.2.2.2.2.2.2.2.2.2.2.2.2.2.2.2.2.2.2.2.2.2.2.2.2.2.1 r.2.2.2.2.2.2.2.2.2.2.2.2.2.2.2.2.2.2.2.2.2.2.2.2.2.2.2.2.2.2.2.2.2.2.2.2.2.2.2.2.2.2.2.2.2.2.2.2.2.2.2.2.2.2.2.2.2.2.2.2.2.2.2.2.2.2.2.2.2.2.2.2.2.2.2.2.1 r.2.2.2.2.2.2.2.2.2.2.2.2.2.2.2.2.2.2.2.2.2.2.2.2.2.2.2.2.2.2.2.2.2.2.2.2.2.2.2.2.2.2.2.2.2.2.2.2.2.2.2.2.2.2.2.2.2.2.2.2.2.2.2.2.2.2.2.2.2.2.2.2.2.2.2.2.2.1 r.2.2.2.2.2.2.2.2.2.2.2.2.2.2.2.2.2.2.2.2.2.2.2.2.2.2.2.2.2.2.2.2.2.2.2.2.2.2.2.2.2.2.2.2.2.2.2.2.2.2.2.2.2.2.2.2.2.2.2.2.2.2.2.2.2.2.2.2.2.2.2.2.2.2.2.2.2.2.1 r.2.2.2.2.2.2.2.2.2.2.2.2.2.2.2.2.2.2.2.2.2.2.2.2.2.2.2.2.2.2.2.2.2.2.2.2.2.2.2.2.2.2.2.2.2.2.2.2.2.2.2.2.2.2.2.2.2.2.2.2.2.2.2.2.2.2.2.2.2.2.2.2.2.2.2.2.2.2.2.1 r.2.2.2.2.2.2.2.2.2.2.2.2.2.2.2.2.2.2.2.2.2.2.2.2.2.2.2.2.2.2.2.2.2.2.2.2.2.2.2.2.2.2.2.2.2.2.2.2.2.2.2.2.2.2.2.2.2.2.2.2.2.2.2.2.2.2.2.2.2.2.2.2.2.2.2.2.2.2.2.2.1 r.2.2.2.2.2.2.2.2.2.2.2.2.2.2.2.2.2.2.2.2.2.2.2.2.2.2.2.2.2.2.2.2.2.2.2.2.2.2.2.2.2.2.2.2.2.2.2.2.2.2.2.2.2.2.2.2.2.2.2.2.2.2.2.2.2.2.2.2.2.2.2.2.2.2.2.2.2.2.2.2.2.1 r.2.2.2.2.2.2.2.2.2.2.2.2.2.2.2.2.2.2.2.2.2.2.2.2.2.2.2.2.2.2.2.2.2.2.2.2.2.2.2.2.2.2.2.2.2.2.2.2.2.2.2.2.2.2.2.2.2.2.2.2.2.2.2.2.2.2.2.2.2.2.2.2.2.2.2.2.2.2.2.2.2.2.2.2.2.2.2.2.2.2.1 r.2.2.2.2.2.2.2.2.2.2.2.2.2.2.2.2.2.2.2.2.2.2.2.2.2.2.2.2.2.2.2.2.2.2.2.2.2.2.2.2.2.2.2.2.2.2.2.2.2.2.2.2.2.2.2.2.2.2.2.2.2.2.2.2.2.2.2.2.2.2.2.2.2.2.2.2.2.2.2.2.2.2.2.2.2.2.2.2.2.2.2.1 r.2.2.2.2.2.2.2.2.2.2.2.2.2.2.2.2.2.2.2.2.2.2.2.2.2.2.2.2.2.2.2.2.2.2.2.2.2.2.2.2.2.2.2.2.2.2.2.2.2.2.2.2.2.2.2.2.2.2.2.2.2.2.2.2.2.2.2.2.2.2.2.2.2.2.2.2.2.2.2.2.2.2.2.2.2.2.2.2.2.2.2.2.1 r.2.2.2.2.2.2.2.2.2.2.2.2.2.2.2.2.2.2.2.2.2.2.2.2.2.2.2.2.2.2.2.2.2.2.2.2.2.2.2.2.2.2.2.2.2.2.2.2.2.2.2.2.2.2.2.2.2.2.2.2.2.2.2.2.2.2.2.2.2.2.2.2.2.2.2.2.2.2.2.2.2.2.2.2.2.2.2.2.2.2.2.2.2)
  | 0, _, _, _, _, _, _, _, _, _, _, _, _, _, _, _, _, _, _, _, _, _, _, _, _, _, _, _, _, _, _, _, _, _, _, _, _, _, _, _, _, _, _, _, _, _, _, _, _, _, _, _, _, _, _, _, _, _, _, _, _, _, _, _, _, _, _, _, _, _, _, _, _, _, _, _, _, _, _, _, _, _, _, _, _, _, _, _, _, _, _, _, _, _, _, _, h, _, _, _, _, _, _ => absurd h (Nat.not_lt_zero _)
  | n + 1, x, n_tokens_count, n_tokens_kinds, n_tokens_starts, n_tokens_details, n_syntax_state, n_syntax_depth, n_syntax_links, n_syntax_primes, n_syntax_dotsDue, n_printer_work_count, n_printer_work_items, n_speaker_work_count, n_speaker_work_items, n_plain_tree_count, n_plain_tree_sums, n_plain_tree_kinds, n_plain_tree_details, n_plain_tree_lefts, n_plain_tree_rights, n_plain_tree_roots, n_plain_tree_joints, n_plain_builder_afterOperand, n_plain_builder_joint, n_plain_builder_operands_count, n_plain_builder_operands_items, n_plain_builder_operators_count, n_plain_builder_operators_items, n_plain_builder_primes_count, n_plain_builder_primes_items, n_plain_printed_count, n_plain_printed_characters, n_plain_spoken_count, n_plain_spoken_characters, n_tight_tree_count, n_tight_tree_sums, n_tight_tree_kinds, n_tight_tree_details, n_tight_tree_lefts, n_tight_tree_rights, n_tight_tree_roots, n_tight_tree_joints, n_tight_builder_afterOperand, n_tight_builder_joint, n_tight_builder_operands_count, n_tight_builder_operands_items, n_tight_builder_operators_count, n_tight_builder_operators_items, n_tight_builder_primes_count, n_tight_builder_primes_items, n_tight_printed_count, n_tight_printed_characters, n_tight_spoken_count, n_tight_spoken_characters, n_wide_tree_count, n_wide_tree_sums, n_wide_tree_kinds, n_wide_tree_details, n_wide_tree_lefts, n_wide_tree_rights, n_wide_tree_roots, n_wide_tree_joints, n_wide_builder_afterOperand, n_wide_builder_joint, n_wide_builder_operands_count, n_wide_builder_operands_items, n_wide_builder_operators_count, n_wide_builder_operators_items, n_wide_builder_primes_count, n_wide_builder_primes_items, n_wide_printed_count, n_wide_printed_characters, n_wide_spoken_count, n_wide_spoken_characters, n_tightAndWide_tree_count, n_tightAndWide_tree_sums, n_tightAndWide_tree_kinds, n_tightAndWide_tree_details, n_tightAndWide_tree_lefts, n_tightAndWide_tree_rights, n_tightAndWide_tree_roots, n_tightAndWide_tree_joints, n_tightAndWide_builder_afterOperand, n_tightAndWide_builder_joint, n_tightAndWide_builder_operands_count, n_tightAndWide_builder_operands_items, n_tightAndWide_builder_operators_count, n_tightAndWide_builder_operators_items, n_tightAndWide_builder_primes_count, n_tightAndWide_builder_primes_items, n_tightAndWide_printed_count, n_tightAndWide_printed_characters, n_tightAndWide_spoken_count, n_tightAndWide_spoken_characters, hx4, hn, hq, hp, r0, r1, r2, r3 => by
    unfold fn_Parser_acceptText_L31
    by_cases he : x = 4
    · subst he
      have h0 := r0 (by decide)
      have hw := zfit_of (t := zrt_t 0) (w := zrt_w 0) hx hf
      rw [sp_linkCount h0.1 (zfit_J hw).1 (zfit_J hw).2.1 hw.2.2.2.1, Option.bind_some]
      exact zwp_t (by decide) (zwp_some ⟨rfl, hp, h0, r1 (by decide), r2 (by decide), r3 (by decide)⟩)
    refine zwp_f (show ¬ nI 4 ≤ nI x from nI_ge (by omega) (by omega)) ?_
    have hbld : ∀ t w : Bool, zfitw (zbuild t w (zTK tx)).1 (zbuild t w (zTK tx)).2 := fun t w => zfit_of hx hf
    have hx' : x = 0 ∨ x = 1 ∨ x = 2 ∨ x = 3 := by omega
    rcases hx' with rfl | rfl | rfl | rfl
    · refine zwp_f (by decide) (zwp_f (by decide) (zwp_f (by decide) ?_))
      have hw := hbld false false
      have hj := zjok_of (zfit_J hw).1 (zfit_J hw).2.1
      refine zwp_seq (sp_build (t := false) (w := false) hq hf _ _ _ _ _ _ _ _ _ _ _ _ _ _ _ _) (fun u hu => ?_)
      refine zwp_seq (sp_writeP hu hw.1 hw.2.2.2.1 hw.2.2.1 hj hw.2.2.2.2.2.1 hw.2.2.2.2.2.2.1 _ _ _ _) (fun v hv => ?_)
      refine zwp_seq (sp_writeS hu hw.1 hw.2.2.2.1 hw.2.2.1 hj hw.2.2.2.2.2.1 hw.2.2.2.2.2.2.2 _ _ _ _) (fun z hz => ?_)
      rw [nI_add1]
      exact sp_acl hx hf n_text_count n_text_characters n (0 + 1) _ _ _ _ _ _ _ _ _ _ _ _ _ _ _ _ _ _ _ _ _ _ _ _ _ _ _ _ _ _ _ _ _ _ _ _ _ _ _ _ _ _ _ _ _ _ _ _ _ _ _ _ _ _ _ _ _ _ _ _ _ _ _ _ _ _ _ _ _ _ _ _ _ _ _ _ _ _ _ _ _ _ _ _ _ _ _ _ _ _ _ _ _ (by omega) (by omega) hq hp (fun _ => ⟨hu, hv, hz⟩) (fun h => absurd h (by omega)) (fun h => absurd h (by omega)) (fun h => absurd h (by omega))
    · refine zwp_t rfl ?_
      have hw := hbld true false
      have hj := zjok_of (zfit_J hw).1 (zfit_J hw).2.1
      refine zwp_seq (sp_build (t := true) (w := false) hq hf _ _ _ _ _ _ _ _ _ _ _ _ _ _ _ _) (fun u hu => ?_)
      refine zwp_seq (sp_writeP hu hw.1 hw.2.2.2.1 hw.2.2.1 hj hw.2.2.2.2.2.1 hw.2.2.2.2.2.2.1 _ _ _ _) (fun v hv => ?_)
      refine zwp_seq (sp_writeS hu hw.1 hw.2.2.2.1 hw.2.2.1 hj hw.2.2.2.2.2.1 hw.2.2.2.2.2.2.2 _ _ _ _) (fun z hz => ?_)
      rw [nI_add1]
      exact sp_acl hx hf n_text_count n_text_characters n (1 + 1) _ _ _ _ _ _ _ _ _ _ _ _ _ _ _ _ _ _ _ _ _ _ _ _ _ _ _ _ _ _ _ _ _ _ _ _ _ _ _ _ _ _ _ _ _ _ _ _ _ _ _ _ _ _ _ _ _ _ _ _ _ _ _ _ _ _ _ _ _ _ _ _ _ _ _ _ _ _ _ _ _ _ _ _ _ _ _ _ _ _ _ _ _ (by omega) (by omega) hq hp (fun h => r0 (by omega)) (fun _ => ⟨hu, hv, hz⟩) (fun h => absurd h (by omega)) (fun h => absurd h (by omega))
    · refine zwp_f (by decide) (zwp_t rfl ?_)
      have hw := hbld false true
      have hj := zjok_of (zfit_J hw).1 (zfit_J hw).2.1
      refine zwp_seq (sp_build (t := false) (w := true) hq hf _ _ _ _ _ _ _ _ _ _ _ _ _ _ _ _) (fun u hu => ?_)
      refine zwp_seq (sp_writeP hu hw.1 hw.2.2.2.1 hw.2.2.1 hj hw.2.2.2.2.2.1 hw.2.2.2.2.2.2.1 _ _ _ _) (fun v hv => ?_)
      refine zwp_seq (sp_writeS hu hw.1 hw.2.2.2.1 hw.2.2.1 hj hw.2.2.2.2.2.1 hw.2.2.2.2.2.2.2 _ _ _ _) (fun z hz => ?_)
      rw [nI_add1]
      exact sp_acl hx hf n_text_count n_text_characters n (2 + 1) _ _ _ _ _ _ _ _ _ _ _ _ _ _ _ _ _ _ _ _ _ _ _ _ _ _ _ _ _ _ _ _ _ _ _ _ _ _ _ _ _ _ _ _ _ _ _ _ _ _ _ _ _ _ _ _ _ _ _ _ _ _ _ _ _ _ _ _ _ _ _ _ _ _ _ _ _ _ _ _ _ _ _ _ _ _ _ _ _ _ _ _ _ (by omega) (by omega) hq hp (fun h => r0 (by omega)) (fun h => r1 (by omega)) (fun _ => ⟨hu, hv, hz⟩) (fun h => absurd h (by omega))
    · refine zwp_f (by decide) (zwp_f (by decide) (zwp_t rfl ?_))
      have hw := hbld true true
      have hj := zjok_of (zfit_J hw).1 (zfit_J hw).2.1
      refine zwp_seq (sp_build (t := true) (w := true) hq hf _ _ _ _ _ _ _ _ _ _ _ _ _ _ _ _) (fun u hu => ?_)
      refine zwp_seq (sp_writeP hu hw.1 hw.2.2.2.1 hw.2.2.1 hj hw.2.2.2.2.2.1 hw.2.2.2.2.2.2.1 _ _ _ _) (fun v hv => ?_)
      refine zwp_seq (sp_writeS hu hw.1 hw.2.2.2.1 hw.2.2.1 hj hw.2.2.2.2.2.1 hw.2.2.2.2.2.2.2 _ _ _ _) (fun z hz => ?_)
      rw [nI_add1]
      exact sp_acl hx hf n_text_count n_text_characters n (3 + 1) _ _ _ _ _ _ _ _ _ _ _ _ _ _ _ _ _ _ _ _ _ _ _ _ _ _ _ _ _ _ _ _ _ _ _ _ _ _ _ _ _ _ _ _ _ _ _ _ _ _ _ _ _ _ _ _ _ _ _ _ _ _ _ _ _ _ _ _ _ _ _ _ _ _ _ _ _ _ _ _ _ _ _ _ _ _ _ _ _ _ _ _ _ (by omega) (by omega) hq hp (fun h => r0 (by omega)) (fun h => r1 (by omega)) (fun h => r2 (by omega)) (fun _ => ⟨hu, hv, hz⟩)
theorem c_acc1 (hx : ztx tx) (n_text_count : Int32) (n_text_characters : Nat → Int32) (n_tokens_count : Int32) (n_tokens_kinds : Nat → Int32) (n_tokens_starts : Nat → Int32) (n_tokens_details : Nat → Int32) (n_syntax_state : Int32) (n_syntax_depth : Int32) (n_syntax_links : Int32) (n_syntax_primes : Int32) (n_syntax_dotsDue : Int32) (n_printer_work_count : Int32) (n_printer_work_items : Nat → Int32) (n_speaker_work_count : Int32) (n_speaker_work_items : Nat → Int32) (n_plain_tree_count : Int32) (n_plain_tree_sums : Int32) (n_plain_tree_kinds : Nat → Int32) (n_plain_tree_details : Nat → Int32) (n_plain_tree_lefts : Nat → Int32) (n_plain_tree_rights : Nat → Int32) (n_plain_tree_roots : Nat → Int32) (n_plain_tree_joints : Nat → Int32) (n_plain_builder_afterOperand : Int32) (n_plain_builder_joint : Int32) (n_plain_builder_operands_count : Int32) (n_plain_builder_operands_items : Nat → Int32) (n_plain_builder_operators_count : Int32) (n_plain_builder_operators_items : Nat → Int32) (n_plain_builder_primes_count : Int32) (n_plain_builder_primes_items : Nat → Int32) (n_plain_printed_count : Int32) (n_plain_printed_characters : Nat → Int32) (n_plain_spoken_count : Int32) (n_plain_spoken_characters : Nat → Int32) (n_tight_tree_count : Int32) (n_tight_tree_sums : Int32) (n_tight_tree_kinds : Nat → Int32) (n_tight_tree_details : Nat → Int32) (n_tight_tree_lefts : Nat → Int32) (n_tight_tree_rights : Nat → Int32) (n_tight_tree_roots : Nat → Int32) (n_tight_tree_joints : Nat → Int32) (n_tight_builder_afterOperand : Int32) (n_tight_builder_joint : Int32) (n_tight_builder_operands_count : Int32) (n_tight_builder_operands_items : Nat → Int32) (n_tight_builder_operators_count : Int32) (n_tight_builder_operators_items : Nat → Int32) (n_tight_builder_primes_count : Int32) (n_tight_builder_primes_items : Nat → Int32) (n_tight_printed_count : Int32) (n_tight_printed_characters : Nat → Int32) (n_tight_spoken_count : Int32) (n_tight_spoken_characters : Nat → Int32) (n_wide_tree_count : Int32) (n_wide_tree_sums : Int32) (n_wide_tree_kinds : Nat → Int32) (n_wide_tree_details : Nat → Int32) (n_wide_tree_lefts : Nat → Int32) (n_wide_tree_rights : Nat → Int32) (n_wide_tree_roots : Nat → Int32) (n_wide_tree_joints : Nat → Int32) (n_wide_builder_afterOperand : Int32) (n_wide_builder_joint : Int32) (n_wide_builder_operands_count : Int32) (n_wide_builder_operands_items : Nat → Int32) (n_wide_builder_operators_count : Int32) (n_wide_builder_operators_items : Nat → Int32) (n_wide_builder_primes_count : Int32) (n_wide_builder_primes_items : Nat → Int32) (n_wide_printed_count : Int32) (n_wide_printed_characters : Nat → Int32) (n_wide_spoken_count : Int32) (n_wide_spoken_characters : Nat → Int32) (n_tightAndWide_tree_count : Int32) (n_tightAndWide_tree_sums : Int32) (n_tightAndWide_tree_kinds : Nat → Int32) (n_tightAndWide_tree_details : Nat → Int32) (n_tightAndWide_tree_lefts : Nat → Int32) (n_tightAndWide_tree_rights : Nat → Int32) (n_tightAndWide_tree_roots : Nat → Int32) (n_tightAndWide_tree_joints : Nat → Int32) (n_tightAndWide_builder_afterOperand : Int32) (n_tightAndWide_builder_joint : Int32) (n_tightAndWide_builder_operands_count : Int32) (n_tightAndWide_builder_operands_items : Nat → Int32) (n_tightAndWide_builder_operators_count : Int32) (n_tightAndWide_builder_operators_items : Nat → Int32) (n_tightAndWide_builder_primes_count : Int32) (n_tightAndWide_builder_primes_items : Nat → Int32) (n_tightAndWide_printed_count : Int32) (n_tightAndWide_printed_characters : Nat → Int32) (n_tightAndWide_spoken_count : Int32) (n_tightAndWide_spoken_characters : Nat → Int32) (h1 : zstr 80 n_text_count n_text_characters tx) (hp : ∃ p, p ≤ 3 ∧ n_syntax_primes = nI p) (hb : zaccB tx = true) :
    zwp (fn_Parser_acceptText n_text_count n_text_characters n_tokens_count n_tokens_kinds n_tokens_starts n_tokens_details n_syntax_state n_syntax_depth n_syntax_links n_syntax_primes n_syntax_dotsDue n_printer_work_count n_printer_work_items n_speaker_work_count n_speaker_work_items n_plain_tree_count n_plain_tree_sums n_plain_tree_kinds n_plain_tree_details n_plain_tree_lefts n_plain_tree_rights n_plain_tree_roots n_plain_tree_joints (zb2 false) (zb2 false) n_plain_builder_afterOperand n_plain_builder_joint n_plain_builder_operands_count n_plain_builder_operands_items n_plain_builder_operators_count n_plain_builder_operators_items n_plain_builder_primes_count n_plain_builder_primes_items n_plain_printed_count n_plain_printed_characters n_plain_spoken_count n_plain_spoken_characters n_tight_tree_count n_tight_tree_sums n_tight_tree_kinds n_tight_tree_details n_tight_tree_lefts n_tight_tree_rights n_tight_tree_roots n_tight_tree_joints (zb2 true) (zb2 false) n_tight_builder_afterOperand n_tight_builder_joint n_tight_builder_operands_count n_tight_builder_operands_items n_tight_builder_operators_count n_tight_builder_operators_items n_tight_builder_primes_count n_tight_builder_primes_items n_tight_printed_count n_tight_printed_characters n_tight_spoken_count n_tight_spoken_characters n_wide_tree_count n_wide_tree_sums n_wide_tree_kinds n_wide_tree_details n_wide_tree_lefts n_wide_tree_rights n_wide_tree_roots n_wide_tree_joints (zb2 false) (zb2 true) n_wide_builder_afterOperand n_wide_builder_joint n_wide_builder_operands_count n_wide_builder_operands_items n_wide_builder_operators_count n_wide_builder_operators_items n_wide_builder_primes_count n_wide_builder_primes_items n_wide_printed_count n_wide_printed_characters n_wide_spoken_count n_wide_spoken_characters n_tightAndWide_tree_count n_tightAndWide_tree_sums n_tightAndWide_tree_kinds n_tightAndWide_tree_details n_tightAndWide_tree_lefts n_tightAndWide_tree_rights n_tightAndWide_tree_roots n_tightAndWide_tree_joints (zb2 true) (zb2 true) n_tightAndWide_builder_afterOperand n_tightAndWide_builder_joint n_tightAndWide_builder_operands_count n_tightAndWide_builder_operands_items n_tightAndWide_builder_operators_count n_tightAndWide_builder_operators_items n_tightAndWide_builder_primes_count n_tightAndWide_builder_primes_items n_tightAndWide_printed_count n_tightAndWide_printed_characters n_tightAndWide_spoken_count n_tightAndWide_spoken_characters) (fun r => r.1 = nI (zR (zJ (zSu (zTK tx) 0))).length ∧ (∃ p, p ≤ 3 ∧ r.2.2.2.2.2.2.2.2.1 = nI p) ∧ zRdg (zTK tx) 0 r.2.2.2.2.2.2.2.2.2.2.2.2.2.2.1 r.2.2.2.2.2.2.2.2.2.2.2.2.2.2.2.1 r.2.2.2.2.2.2.2.2.2.2.2.2.2.2.2.2.1 r.2.2.2.2.2.2.2.2.2.2.2.2.2.2.2.2.2.1 r.2.2.2.2.2.2.2.2.2.2.2.2.2.2.2.2.2.2.1 r.2.2.2.2.2.2.2.2.2.2.2.2.2.2.2.2.2.2.2.1 r.2.2.2.2.2.2.2.2.2.2.2.2.2.2.2.2.2.2.2.2.1 r.2.2.2.2.2.2.2.2.2.2.2.2.2.2.2.2.2.2.2.2.2.1 r.2.2.2.2.2.2.2.2.2.2.2.2.2.2.2.2.2.2.2.2.2.2.2.2.2.2.2.2.2.2.1 r.2.2.2.2.2.2.2.2.2.2.2.2.2.2.2.2.2.2.2.2.2.2.2.2.2.2.2.2.2.2.2.1 r.2.2.2.2.2.2.2.2.2.2.2.2.2.2.2.2.2.2.2.2.2.2.2.2.2.2.2.2.2.2.2.2.1 r.2.2.2.2.2.2.2.2.2.2.2.2.2.2.2.2.2.2.2.2.2.2.2.2.2.2.2.2.2.2.2.2.2.1 ∧ zRdg (zTK tx) 1 r.2.2.2.2.2.2.2.2.2.2.2.2.2.2.2.2.2.2.2.2.2.2.2.2.2.2.2.2.2.2.2.2.2.2.1 r.2.2.2.2.2.2.2.2.2.2.2.2.2.2.2.2.2.2.2.2.2.2.2.2.2.2.2.2.2.2.2.2.2.2.2.1 r.2.2.2.2.2.2.2.2.2.2.2.2.2.2.2.2.2.2.2.2.2.2.2.2.2.2.2.2.2.2.2.2.2.2.2.2.1 r.2.2.2.2.2.2.2.2.2.2.2.2.2.2.2.2.2.2.2.2.2.2.2.2.2.2.2.2.2.2.2.2.2.2.2.2.2.1 r.2.2.2.2.2.2.2.2.2.2.2.2.2.2.2.2.2.2.2.2.2.2.2.2.2.2.2.2.2.2.2.2.2.2.2.2.2.2.1 r.2.2.2.2.2.2.2.2.2.2.2.2.2.2.2.2.2.2.2.2.2.2.2.2.2.2.2.2.2.2.2.2.2.2.2.2.2.2.2.1 r.2.2.2.2.2.2.2.2.2.2.2.2.2.2.2.2.2.2.2.2.2.2.2.2.2.2.2.2.2.2.2.2.2.2.2.2.2.2.2.2.1 r.2.2.2.2.2.2.2.2.2.2.2.2.2.2.2.2.2.2.2.2.2.2.2.2.2.2.2.2.2.2.2.2.2.2.2.2.2.2.2.2.2.1 r.2.2.2.2.2.2.2.2.2.2.2.2.2.2.2.2.2.2.2.2.2.2.2.2.2.2.2.2.2.2.2.2.2.2.2.2.2.2.2.2.2.2.2.2.2.2.2.2.2.2.1 r.2.2.2.2.2.2.2.2.2.2.2.2.2.2.2.2.2.2.2.2.2.2.2.2.2.2.2.2.2.2.2.2.2.2.2.2.2.2.2.2.2.2.2.2.2.2.2.2.2.2.2.1 r.2.2.2.2.2.2.2.2.2.2.2.2.2.2.2.2.2.2.2.2.2.2.2.2.2.2.2.2.2.2.2.2.2.2.2.2.2.2.2.2.2.2.2.2.2.2.2.2.2.2.2.2.1 r.2.2.2.2.2.2.2.2.2.2.2.2.2.2.2.2.2.2.2.2.2.2.2.2.2.2.2.2.2.2.2.2.2.2.2.2.2.2.2.2.2.2.2.2.2.2.2.2.2.2.2.2.2.1 ∧ zRdg (zTK tx) 2 r.2.2.2.2.2.2.2.2.2.2.2.2.2.2.2.2.2.2.2.2.2.2.2.2.2.2.2.2.2.2.2.2.2.2.2.2.2.2.2.2.2.2.2.2.2.2.2.2.2.2.2.2.2.2.1 r.2.2.2.2.2.2.2.2.2.2.2.2.2.2.2.2.2.2.2.2.2.2.2.2.2.2.2.2.2.2.2.2.2.2.2.2.2.2.2.2.2.2.2.2.2.2.2.2.2.2.2.2.2.2.2.1 r.2.2.2.2.2.2.2.2.2.2.2.2.2.2.2.2.2.2.2.2.2.2.2.2.2.2.2.2.2.2.2.2.2.2.2.2.2.2.2.2.2.2.2.2.2.2.2.2.2.2.2.2.2.2.2.2.1 r.2.2.2.2.2.2.2.2.2.2.2.2.2.2.2.2.2.2.2.2.2.2.2.2.2.2.2.2.2.2.2.2.2.2.2.2.2.2.2.2.2.2.2.2.2.2.2.2.2.2.2.2.2.2.2.2.2.1 r.2.2.2.2.2.2.2.2.2.2.2.2.2.2.2.2.2.2.2.2.2.2.2.2.2.2.2.2.2.2.2.2.2.2.2.2.2.2.2.2.2.2.2.2.2.2.2.2.2.2.2.2.2.2.2.2.2.2.1 r.2.2.2.2.2.2.2.2.2.2.2.2.2.2.2.2.2.2.2.2.2.2.2.2.2.2.2.2.2.2.2.2.2.2.2.2.2.2.2.2.2.2.2.2.2.2.2.2.2.2.2.2.2.2.2.2.2.2.2.1 r.2.2.2.2.2.2.2.2.2.2.2.2.2.2.2.2.2.2.2.2.2.2.2.2.2.2.2.2.2.2.2.2.2.2.2.2.2.2.2.2.2.2.2.2.2.2.2.2.2.2.2.2.2.2.2.2.2.2.2.2.1 r.2.2.2.2.2.2.2.2.2.2.2.2.2.2.2.2.2.2.2.2.2.2.2.2.2.2.2.2.2.2.2.2.2.2.2.2.2.2.2.2.2.2.2.2.2.2.2.2.2.2.2.2.2.2.2.2.2.2.2.2.2.1 r.2.2.2.2.2.2.2.2.2.2.2.2.2.2.2.2.2.2.2.2.2.2.2.2.2.2.2.2.2.2.2.2.2.2.2.2.2.2.2.2.2.2.2.2.2.2.2.2.2.2.2.2.2.2.2.2.2.2.2.2.2.2.2.2.2.2.2.2.2.2.1 r.2.2.2.2.2.2.2.2.2.2.2.2.2.2.2.2.2.2.2.2.2.2.2.2.2.2.2.2.2.2.2.2.2.2.2.2.2.2.2.2.2.2.2.2.2.2.2.2.2.2.2.2.2.2.2.2.2.2.2.2.2.2.2.2.2.2.2.2.2.2.2.1 r.2.2.2.2.2.2.2.2.2.2.2.2.2.2.2.2.2.2.2.2.2.2.2.2.2.2.2.2.2.2.2.2.2.2.2.2.2.2.2.2.2.2.2.2.2.2.2.2.2.2.2.2.2.2.2.2.2.2.2.2.2.2.2.2.2.2.2.2.2.2.2.2.1 r.2.2.2.2.2.2.2.2.2.2.2.2.2.2.2.2.2.2.2.2.2.2.2.2.2.2.2.2.2.2.2.2.2.2.2.2.2.2.2.2.2.2.2.2.2.2.2.2.2.2.2.2.2.2.2.2.2.2.2.2.2.2.2.2.2.2.2.2.2.2.2.2.2.1 ∧ zRdg (zTK tx) 3 r.2.2.2.2.2.2.2.2.2.2.2.2.2.2.2.2.2.2.2.2.2.2.2.2.2.2.2.2.2.2.2.2.2.2.2.2.2.2.2.2.2.2.2.2.2.2.2.2.2.2.2.2.2.2.2.2.2.2.2.2.2.2.2.2.2.2.2.2.2.2.2.2.2.2.1 r.2.2.2.2.2.2.2.2.2.2.2.2.2.2.2.2.2.2.2.2.2.2.2.2.2.2.2.2.2.2.2.2.2.2.2.2.2.2.2.2.2.2.2.2.2.2.2.2.2.2.2.2.2.2.2.2.2.2.2.2.2.2.2.2.2.2.2.2.2.2.2.2.2.2.2.1 r.2.2.2.2.2.2.2.2.2.2.2.2.2.2.2.2.2.2.2.2.2.2.2.2.2.2.2.2.2.2.2.2.2.2.2.2.2.2.2.2.2.2.2.2.2.2.2.2.2.2.2.2.2.2.2.2.2.2.2.2.2.2.2.2.2.2.2.2.2.2.2.2.2.2.2.2.1 r.2.2.2.2.2.2.2.2.2.2.2.2.2.2.2.2.2.2.2.2.2.2.2.2.2.2.2.2.2.2.2.2.2.2.2.2.2.2.2.2.2.2.2.2.2.2.2.2.2.2.2.2.2.2.2.2.2.2.2.2.2.2.2.2.2.2.2.2.2.2.2.2.2.2.2.2.2.1 r.2.2.2.2.2.2.2.2.2.2.2.2.2.2.2.2.2.2.2.2.2.2.2.2.2.2.2.2.2.2.2.2.2.2.2.2.2.2.2.2.2.2.2.2.2.2.2.2.2.2.2.2.2.2.2.2.2.2.2.2.2.2.2.2.2.2.2.2.2.2.2.2.2.2.2.2.2.2.1 r.2.2.2.2.2.2.2.2.2.2.2.2.2.2.2.2.2.2.2.2.2.2.2.2.2.2.2.2.2.2.2.2.2.2.2.2.2.2.2.2.2.2.2.2.2.2.2.2.2.2.2.2.2.2.2.2.2.2.2.2.2.2.2.2.2.2.2.2.2.2.2.2.2.2.2.2.2.2.2.1 r.2.2.2.2.2.2.2.2.2.2.2.2.2.2.2.2.2.2.2.2.2.2.2.2.2.2.2.2.2.2.2.2.2.2.2.2.2.2.2.2.2.2.2.2.2.2.2.2.2.2.2.2.2.2.2.2.2.2.2.2.2.2.2.2.2.2.2.2.2.2.2.2.2.2.2.2.2.2.2.2.1 r.2.2.2.2.2.2.2.2.2.2.2.2.2.2.2.2.2.2.2.2.2.2.2.2.2.2.2.2.2.2.2.2.2.2.2.2.2.2.2.2.2.2.2.2.2.2.2.2.2.2.2.2.2.2.2.2.2.2.2.2.2.2.2.2.2.2.2.2.2.2.2.2.2.2.2.2.2.2.2.2.2.1 r.2.2.2.2.2.2.2.2.2.2.2.2.2.2.2.2.2.2.2.2.2.2.2.2.2.2.2.2.2.2.2.2.2.2.2.2.2.2.2.2.2.2.2.2.2.2.2.2.2.2.2.2.2.2.2.2.2.2.2.2.2.2.2.2.2.2.2.2.2.2.2.2.2.2.2.2.2.2.2.2.2.2.2.2.2.2.2.2.2.2.1 r.2.2.2.2.2.2.2.2.2.2.2.2.2.2.2.2.2.2.2.2.2.2.2.2.2.2.2.2.2.2.2.2.2.2.2.2.2.2.2.2.2.2.2.2.2.2.2.2.2.2.2.2.2.2.2.2.2.2.2.2.2.2.2.2.2.2.2.2.2.2.2.2.2.2.2.2.2.2.2.2.2.2.2.2.2.2.2.2.2.2.2.1 r.2.2.2.2.2.2.2.2.2.2.2.2.2.2.2.2.2.2.2.2.2.2.2.2.2.2.2.2.2.2.2.2.2.2.2.2.2.2.2.2.2.2.2.2.2.2.2.2.2.2.2.2.2.2.2.2.2.2.2.2.2.2.2.2.2.2.2.2.2.2.2.2.2.2.2.2.2.2.2.2.2.2.2.2.2.2.2.2.2.2.2.2.1 r.2.2.2.2.2.2.2.2.2.2.2.2.2.2.2.2.2.2.2.2.2.2.2.2.2.2.2.2.2.2.2.2.2.2.2.2.2.2.2.2.2.2.2.2.2.2.2.2.2.2.2.2.2.2.2.2.2.2.2.2.2.2.2.2.2.2.2.2.2.2.2.2.2.2.2.2.2.2.2.2.2.2.2.2.2.2.2.2.2.2.2.2.2) := by
  obtain ⟨p, hp3, rfl⟩ := hp
  obtain ⟨hf, s, hg, hs⟩ := zacc_t hx hb
  obtain ⟨k1, k2, k3⟩ := zTK_ok hx
  have h1c := h1.1
  rw [h1c] at h1
  unfold fn_Parser_acceptText
  rw [h1c]
  refine zwp_seq (sp_tokens hx h1 _ _ _ _) (fun q hq => ?_)
  refine zwp_seq (sp_fault hq k1 k2 _ _ _ p hp3 _) (fun r hr => ?_)
  obtain ⟨⟨f1, f2⟩, p', hp', hpr⟩ := hr
  have e := (f2 s (zbad_none hg) hg).1 hs
  rw [e]
  refine zwp_t rfl ?_
  exact sp_acl hx hf _ _ zFU 0 _ _ _ _ _ _ _ _ _ _ _ _ _ _ _ _ _ _ _ _ _ _ _ _ _ _ _ _ _ _ _ _ _ _ _ _ _ _ _ _ _ _ _ _ _ _ _ _ _ _ _ _ _ _ _ _ _ _ _ _ _ _ _ _ _ _ _ _ _ _ _ _ _ _ _ _ _ _ _ _ _ _ _ _ _ _ _ _ _ _ _ _ _ (by omega) (by decide) hq ⟨p', hpr, hp'⟩ (fun h => absurd h (by omega)) (fun h => absurd h (by omega)) (fun h => absurd h (by omega)) (fun h => absurd h (by omega))
theorem c_acc0 (hx : ztx tx) {l : List (Nat × Nat × Nat)} (n_text_count : Int32) (n_text_characters : Nat → Int32) (n_tokens_count : Int32) (n_tokens_kinds : Nat → Int32) (n_tokens_starts : Nat → Int32) (n_tokens_details : Nat → Int32) (n_syntax_state : Int32) (n_syntax_depth : Int32) (n_syntax_links : Int32) (n_syntax_primes : Int32) (n_syntax_dotsDue : Int32) (n_printer_work_count : Int32) (n_printer_work_items : Nat → Int32) (n_speaker_work_count : Int32) (n_speaker_work_items : Nat → Int32) (n_plain_tree_count : Int32) (n_plain_tree_sums : Int32) (n_plain_tree_kinds : Nat → Int32) (n_plain_tree_details : Nat → Int32) (n_plain_tree_lefts : Nat → Int32) (n_plain_tree_rights : Nat → Int32) (n_plain_tree_roots : Nat → Int32) (n_plain_tree_joints : Nat → Int32) (n_plain_builder_tight : Int32) (n_plain_builder_wide : Int32) (n_plain_builder_afterOperand : Int32) (n_plain_builder_joint : Int32) (n_plain_builder_operands_count : Int32) (n_plain_builder_operands_items : Nat → Int32) (n_plain_builder_operators_count : Int32) (n_plain_builder_operators_items : Nat → Int32) (n_plain_builder_primes_count : Int32) (n_plain_builder_primes_items : Nat → Int32) (n_plain_printed_count : Int32) (n_plain_printed_characters : Nat → Int32) (n_plain_spoken_count : Int32) (n_plain_spoken_characters : Nat → Int32) (n_tight_tree_count : Int32) (n_tight_tree_sums : Int32) (n_tight_tree_kinds : Nat → Int32) (n_tight_tree_details : Nat → Int32) (n_tight_tree_lefts : Nat → Int32) (n_tight_tree_rights : Nat → Int32) (n_tight_tree_roots : Nat → Int32) (n_tight_tree_joints : Nat → Int32) (n_tight_builder_tight : Int32) (n_tight_builder_wide : Int32) (n_tight_builder_afterOperand : Int32) (n_tight_builder_joint : Int32) (n_tight_builder_operands_count : Int32) (n_tight_builder_operands_items : Nat → Int32) (n_tight_builder_operators_count : Int32) (n_tight_builder_operators_items : Nat → Int32) (n_tight_builder_primes_count : Int32) (n_tight_builder_primes_items : Nat → Int32) (n_tight_printed_count : Int32) (n_tight_printed_characters : Nat → Int32) (n_tight_spoken_count : Int32) (n_tight_spoken_characters : Nat → Int32) (n_wide_tree_count : Int32) (n_wide_tree_sums : Int32) (n_wide_tree_kinds : Nat → Int32) (n_wide_tree_details : Nat → Int32) (n_wide_tree_lefts : Nat → Int32) (n_wide_tree_rights : Nat → Int32) (n_wide_tree_roots : Nat → Int32) (n_wide_tree_joints : Nat → Int32) (n_wide_builder_tight : Int32) (n_wide_builder_wide : Int32) (n_wide_builder_afterOperand : Int32) (n_wide_builder_joint : Int32) (n_wide_builder_operands_count : Int32) (n_wide_builder_operands_items : Nat → Int32) (n_wide_builder_operators_count : Int32) (n_wide_builder_operators_items : Nat → Int32) (n_wide_builder_primes_count : Int32) (n_wide_builder_primes_items : Nat → Int32) (n_wide_printed_count : Int32) (n_wide_printed_characters : Nat → Int32) (n_wide_spoken_count : Int32) (n_wide_spoken_characters : Nat → Int32) (n_tightAndWide_tree_count : Int32) (n_tightAndWide_tree_sums : Int32) (n_tightAndWide_tree_kinds : Nat → Int32) (n_tightAndWide_tree_details : Nat → Int32) (n_tightAndWide_tree_lefts : Nat → Int32) (n_tightAndWide_tree_rights : Nat → Int32) (n_tightAndWide_tree_roots : Nat → Int32) (n_tightAndWide_tree_joints : Nat → Int32) (n_tightAndWide_builder_tight : Int32) (n_tightAndWide_builder_wide : Int32) (n_tightAndWide_builder_afterOperand : Int32) (n_tightAndWide_builder_joint : Int32) (n_tightAndWide_builder_operands_count : Int32) (n_tightAndWide_builder_operands_items : Nat → Int32) (n_tightAndWide_builder_operators_count : Int32) (n_tightAndWide_builder_operators_items : Nat → Int32) (n_tightAndWide_builder_primes_count : Int32) (n_tightAndWide_builder_primes_items : Nat → Int32) (n_tightAndWide_printed_count : Int32) (n_tightAndWide_printed_characters : Nat → Int32) (n_tightAndWide_spoken_count : Int32) (n_tightAndWide_spoken_characters : Nat → Int32) (h1 : zstr 80 n_text_count n_text_characters tx) (hp : ∃ p, p ≤ 3 ∧ n_syntax_primes = nI p) (hb : zaccB tx = false) (h_0 : zRdg l 0 n_plain_tree_count n_plain_tree_sums n_plain_tree_kinds n_plain_tree_details n_plain_tree_lefts n_plain_tree_rights n_plain_tree_roots n_plain_tree_joints n_plain_printed_count n_plain_printed_characters n_plain_spoken_count n_plain_spoken_characters) (h_1 : zRdg l 1 n_tight_tree_count n_tight_tree_sums n_tight_tree_kinds n_tight_tree_details n_tight_tree_lefts n_tight_tree_rights n_tight_tree_roots n_tight_tree_joints n_tight_printed_count n_tight_printed_characters n_tight_spoken_count n_tight_spoken_characters) (h_2 : zRdg l 2 n_wide_tree_count n_wide_tree_sums n_wide_tree_kinds n_wide_tree_details n_wide_tree_lefts n_wide_tree_rights n_wide_tree_roots n_wide_tree_joints n_wide_printed_count n_wide_printed_characters n_wide_spoken_count n_wide_spoken_characters) (h_3 : zRdg l 3 n_tightAndWide_tree_count n_tightAndWide_tree_sums n_tightAndWide_tree_kinds n_tightAndWide_tree_details n_tightAndWide_tree_lefts n_tightAndWide_tree_rights n_tightAndWide_tree_roots n_tightAndWide_tree_joints n_tightAndWide_printed_count n_tightAndWide_printed_characters n_tightAndWide_spoken_count n_tightAndWide_spoken_characters) :
    zwp (fn_Parser_acceptText n_text_count n_text_characters n_tokens_count n_tokens_kinds n_tokens_starts n_tokens_details n_syntax_state n_syntax_depth n_syntax_links n_syntax_primes n_syntax_dotsDue n_printer_work_count n_printer_work_items n_speaker_work_count n_speaker_work_items n_plain_tree_count n_plain_tree_sums n_plain_tree_kinds n_plain_tree_details n_plain_tree_lefts n_plain_tree_rights n_plain_tree_roots n_plain_tree_joints n_plain_builder_tight n_plain_builder_wide n_plain_builder_afterOperand n_plain_builder_joint n_plain_builder_operands_count n_plain_builder_operands_items n_plain_builder_operators_count n_plain_builder_operators_items n_plain_builder_primes_count n_plain_builder_primes_items n_plain_printed_count n_plain_printed_characters n_plain_spoken_count n_plain_spoken_characters n_tight_tree_count n_tight_tree_sums n_tight_tree_kinds n_tight_tree_details n_tight_tree_lefts n_tight_tree_rights n_tight_tree_roots n_tight_tree_joints n_tight_builder_tight n_tight_builder_wide n_tight_builder_afterOperand n_tight_builder_joint n_tight_builder_operands_count n_tight_builder_operands_items n_tight_builder_operators_count n_tight_builder_operators_items n_tight_builder_primes_count n_tight_builder_primes_items n_tight_printed_count n_tight_printed_characters n_tight_spoken_count n_tight_spoken_characters n_wide_tree_count n_wide_tree_sums n_wide_tree_kinds n_wide_tree_details n_wide_tree_lefts n_wide_tree_rights n_wide_tree_roots n_wide_tree_joints n_wide_builder_tight n_wide_builder_wide n_wide_builder_afterOperand n_wide_builder_joint n_wide_builder_operands_count n_wide_builder_operands_items n_wide_builder_operators_count n_wide_builder_operators_items n_wide_builder_primes_count n_wide_builder_primes_items n_wide_printed_count n_wide_printed_characters n_wide_spoken_count n_wide_spoken_characters n_tightAndWide_tree_count n_tightAndWide_tree_sums n_tightAndWide_tree_kinds n_tightAndWide_tree_details n_tightAndWide_tree_lefts n_tightAndWide_tree_rights n_tightAndWide_tree_roots n_tightAndWide_tree_joints n_tightAndWide_builder_tight n_tightAndWide_builder_wide n_tightAndWide_builder_afterOperand n_tightAndWide_builder_joint n_tightAndWide_builder_operands_count n_tightAndWide_builder_operands_items n_tightAndWide_builder_operators_count n_tightAndWide_builder_operators_items n_tightAndWide_builder_primes_count n_tightAndWide_builder_primes_items n_tightAndWide_printed_count n_tightAndWide_printed_characters n_tightAndWide_spoken_count n_tightAndWide_spoken_characters) (fun r => r.1 = -2 ∧ (∃ p, p ≤ 3 ∧ r.2.2.2.2.2.2.2.2.1 = nI p) ∧ zRdg l 0 r.2.2.2.2.2.2.2.2.2.2.2.2.2.2.1 r.2.2.2.2.2.2.2.2.2.2.2.2.2.2.2.1 r.2.2.2.2.2.2.2.2.2.2.2.2.2.2.2.2.1 r.2.2.2.2.2.2.2.2.2.2.2.2.2.2.2.2.2.1 r.2.2.2.2.2.2.2.2.2.2.2.2.2.2.2.2.2.2.1 r.2.2.2.2.2.2.2.2.2.2.2.2.2.2.2.2.2.2.2.1 r.2.2.2.2.2.2.2.2.2.2.2.2.2.2.2.2.2.2.2.2.1 r.2.2.2.2.2.2.2.2.2.2.2.2.2.2.2.2.2.2.2.2.2.1 r.2.2.2.2.2.2.2.2.2.2.2.2.2.2.2.2.2.2.2.2.2.2.2.2.2.2.2.2.2.2.1 r.2.2.2.2.2.2.2.2.2.2.2.2.2.2.2.2.2.2.2.2.2.2.2.2.2.2.2.2.2.2.2.1 r.2.2.2.2.2.2.2.2.2.2.2.2.2.2.2.2.2.2.2.2.2.2.2.2.2.2.2.2.2.2.2.2.1 r.2.2.2.2.2.2.2.2.2.2.2.2.2.2.2.2.2.2.2.2.2.2.2.2.2.2.2.2.2.2.2.2.2.1 ∧ zRdg l 1 r.2.2.2.2.2.2.2.2.2.2.2.2.2.2.2.2.2.2.2.2.2.2.2.2.2.2.2.2.2.2.2.2.2.2.1 r.2.2.2.2.2.2.2.2.2.2.2.2.2.2.2.2.2.2.2.2.2.2.2.2.2.2.2.2.2.2.2.2.2.2.2.1 r.2.2.2.2.2.2.2.2.2.2.2.2.2.2.2.2.2.2.2.2.2.2.2.2.2.2.2.2.2.2.2.2.2.2.2.2.1 r.2.2.2.2.2.2.2.2.2.2.2.2.2.2.2.2.2.2.2.2.2.2.2.2.2.2.2.2.2.2.2.2.2.2.2.2.2.1 r.2.2.2.2.2.2.2.2.2.2.2.2.2.2.2.2.2.2.2.2.2.2.2.2.2.2.2.2.2.2.2.2.2.2.2.2.2.2.1 r.2.2.2.2.2.2.2.2.2.2.2.2.2.2.2.2.2.2.2.2.2.2.2.2.2.2.2.2.2.2.2.2.2.2.2.2.2.2.2.1 r.2.2.2.2.2.2.2.2.2.2.2.2.2.2.2.2.2.2.2.2.2.2.2.2.2.2.2.2.2.2.2.2.2.2.2.2.2.2.2.2.1 r.2.2.2.2.2.2.2.2.2.2.2.2.2.2.2.2.2.2.2.2.2.2.2.2.2.2.2.2.2.2.2.2.2.2.2.2.2.2.2.2.2.1 r.2.2.2.2.2.2.2.2.2.2.2.2.2.2.2.2.2.2.2.2.2.2.2.2.2.2.2.2.2.2.2.2.2.2.2.2.2.2.2.2.2.2.2.2.2.2.2.2.2.2.1 r.2.2.2.2.2.2.2.2.2.2.2.2.2.2.2.2.2.2.2.2.2.2.2.2.2.2.2.2.2.2.2.2.2.2.2.2.2.2.2.2.2.2.2.2.2.2.2.2.2.2.2.1 r.2.2.2.2.2.2.2.2.2.2.2.2.2.2.2.2.2.2.2.2.2.2.2.2.2.2.2.2.2.2.2.2.2.2.2.2.2.2.2.2.2.2.2.2.2.2.2.2.2.2.2.2.1 r.2.2.2.2.2.2.2.2.2.2.2.2.2.2.2.2.2.2.2.2.2.2.2.2.2.2.2.2.2.2.2.2.2.2.2.2.2.2.2.2.2.2.2.2.2.2.2.2.2.2.2.2.2.1 ∧ zRdg l 2 r.2.2.2.2.2.2.2.2.2.2.2.2.2.2.2.2.2.2.2.2.2.2.2.2.2.2.2.2.2.2.2.2.2.2.2.2.2.2.2.2.2.2.2.2.2.2.2.2.2.2.2.2.2.2.1 r.2.2.2.2.2.2.2.2.2.2.2.2.2.2.2.2.2.2.2.2.2.2.2.2.2.2.2.2.2.2.2.2.2.2.2.2.2.2.2.2.2.2.2.2.2.2.2.2.2.2.2.2.2.2.2.1 r.2.2.2.2.2.2.2.2.2.2.2.2.2.2.2.2.2.2.2.2.2.2.2.2.2.2.2.2.2.2.2.2.2.2.2.2.2.2.2.2.2.2.2.2.2.2.2.2.2.2.2.2.2.2.2.2.1 r.2.2.2.2.2.2.2.2.2.2.2.2.2.2.2.2.2.2.2.2.2.2.2.2.2.2.2.2.2.2.2.2.2.2.2.2.2.2.2.2.2.2.2.2.2.2.2.2.2.2.2.2.2.2.2.2.2.1 r.2.2.2.2.2.2.2.2.2.2.2.2.2.2.2.2.2.2.2.2.2.2.2.2.2.2.2.2.2.2.2.2.2.2.2.2.2.2.2.2.2.2.2.2.2.2.2.2.2.2.2.2.2.2.2.2.2.2.1 r.2.2.2.2.2.2.2.2.2.2.2.2.2.2.2.2.2.2.2.2.2.2.2.2.2.2.2.2.2.2.2.2.2.2.2.2.2.2.2.2.2.2.2.2.2.2.2.2.2.2.2.2.2.2.2.2.2.2.2.1 r.2.2.2.2.2.2.2.2.2.2.2.2.2.2.2.2.2.2.2.2.2.2.2.2.2.2.2.2.2.2.2.2.2.2.2.2.2.2.2.2.2.2.2.2.2.2.2.2.2.2.2.2.2.2.2.2.2.2.2.2.1 r.2.2.2.2.2.2.2.2.2.2.2.2.2.2.2.2.2.2.2.2.2.2.2.2.2.2.2.2.2.2.2.2.2.2.2.2.2.2.2.2.2.2.2.2.2.2.2.2.2.2.2.2.2.2.2.2.2.2.2.2.2.1 r.2.2.2.2.2.2.2.2.2.2.2.2.2.2.2.2.2.2.2.2.2.2.2.2.2.2.2.2.2.2.2.2.2.2.2.2.2.2.2.2.2.2.2.2.2.2.2.2.2.2.2.2.2.2.2.2.2.2.2.2.2.2.2.2.2.2.2.2.2.2.1 r.2.2.2.2.2.2.2.2.2.2.2.2.2.2.2.2.2.2.2.2.2.2.2.2.2.2.2.2.2.2.2.2.2.2.2.2.2.2.2.2.2.2.2.2.2.2.2.2.2.2.2.2.2.2.2.2.2.2.2.2.2.2.2.2.2.2.2.2.2.2.2.1 r.2.2.2.2.2.2.2.2.2.2.2.2.2.2.2.2.2.2.2.2.2.2.2.2.2.2.2.2.2.2.2.2.2.2.2.2.2.2.2.2.2.2.2.2.2.2.2.2.2.2.2.2.2.2.2.2.2.2.2.2.2.2.2.2.2.2.2.2.2.2.2.2.1 r.2.2.2.2.2.2.2.2.2.2.2.2.2.2.2.2.2.2.2.2.2.2.2.2.2.2.2.2.2.2.2.2.2.2.2.2.2.2.2.2.2.2.2.2.2.2.2.2.2.2.2.2.2.2.2.2.2.2.2.2.2.2.2.2.2.2.2.2.2.2.2.2.2.1 ∧ zRdg l 3 r.2.2.2.2.2.2.2.2.2.2.2.2.2.2.2.2.2.2.2.2.2.2.2.2.2.2.2.2.2.2.2.2.2.2.2.2.2.2.2.2.2.2.2.2.2.2.2.2.2.2.2.2.2.2.2.2.2.2.2.2.2.2.2.2.2.2.2.2.2.2.2.2.2.2.1 r.2.2.2.2.2.2.2.2.2.2.2.2.2.2.2.2.2.2.2.2.2.2.2.2.2.2.2.2.2.2.2.2.2.2.2.2.2.2.2.2.2.2.2.2.2.2.2.2.2.2.2.2.2.2.2.2.2.2.2.2.2.2.2.2.2.2.2.2.2.2.2.2.2.2.2.1 r.2.2.2.2.2.2.2.2.2.2.2.2.2.2.2.2.2.2.2.2.2.2.2.2.2.2.2.2.2.2.2.2.2.2.2.2.2.2.2.2.2.2.2.2.2.2.2.2.2.2.2.2.2.2.2.2.2.2.2.2.2.2.2.2.2.2.2.2.2.2.2.2.2.2.2.2.1 r.2.2.2.2.2.2.2.2.2.2.2.2.2.2.2.2.2.2.2.2.2.2.2.2.2.2.2.2.2.2.2.2.2.2.2.2.2.2.2.2.2.2.2.2.2.2.2.2.2.2.2.2.2.2.2.2.2.2.2.2.2.2.2.2.2.2.2.2.2.2.2.2.2.2.2.2.2.1 r.2.2.2.2.2.2.2.2.2.2.2.2.2.2.2.2.2.2.2.2.2.2.2.2.2.2.2.2.2.2.2.2.2.2.2.2.2.2.2.2.2.2.2.2.2.2.2.2.2.2.2.2.2.2.2.2.2.2.2.2.2.2.2.2.2.2.2.2.2.2.2.2.2.2.2.2.2.2.1 r.2.2.2.2.2.2.2.2.2.2.2.2.2.2.2.2.2.2.2.2.2.2.2.2.2.2.2.2.2.2.2.2.2.2.2.2.2.2.2.2.2.2.2.2.2.2.2.2.2.2.2.2.2.2.2.2.2.2.2.2.2.2.2.2.2.2.2.2.2.2.2.2.2.2.2.2.2.2.2.1 r.2.2.2.2.2.2.2.2.2.2.2.2.2.2.2.2.2.2.2.2.2.2.2.2.2.2.2.2.2.2.2.2.2.2.2.2.2.2.2.2.2.2.2.2.2.2.2.2.2.2.2.2.2.2.2.2.2.2.2.2.2.2.2.2.2.2.2.2.2.2.2.2.2.2.2.2.2.2.2.2.1 r.2.2.2.2.2.2.2.2.2.2.2.2.2.2.2.2.2.2.2.2.2.2.2.2.2.2.2.2.2.2.2.2.2.2.2.2.2.2.2.2.2.2.2.2.2.2.2.2.2.2.2.2.2.2.2.2.2.2.2.2.2.2.2.2.2.2.2.2.2.2.2.2.2.2.2.2.2.2.2.2.2.1 r.2.2.2.2.2.2.2.2.2.2.2.2.2.2.2.2.2.2.2.2.2.2.2.2.2.2.2.2.2.2.2.2.2.2.2.2.2.2.2.2.2.2.2.2.2.2.2.2.2.2.2.2.2.2.2.2.2.2.2.2.2.2.2.2.2.2.2.2.2.2.2.2.2.2.2.2.2.2.2.2.2.2.2.2.2.2.2.2.2.2.1 r.2.2.2.2.2.2.2.2.2.2.2.2.2.2.2.2.2.2.2.2.2.2.2.2.2.2.2.2.2.2.2.2.2.2.2.2.2.2.2.2.2.2.2.2.2.2.2.2.2.2.2.2.2.2.2.2.2.2.2.2.2.2.2.2.2.2.2.2.2.2.2.2.2.2.2.2.2.2.2.2.2.2.2.2.2.2.2.2.2.2.2.1 r.2.2.2.2.2.2.2.2.2.2.2.2.2.2.2.2.2.2.2.2.2.2.2.2.2.2.2.2.2.2.2.2.2.2.2.2.2.2.2.2.2.2.2.2.2.2.2.2.2.2.2.2.2.2.2.2.2.2.2.2.2.2.2.2.2.2.2.2.2.2.2.2.2.2.2.2.2.2.2.2.2.2.2.2.2.2.2.2.2.2.2.2.1 r.2.2.2.2.2.2.2.2.2.2.2.2.2.2.2.2.2.2.2.2.2.2.2.2.2.2.2.2.2.2.2.2.2.2.2.2.2.2.2.2.2.2.2.2.2.2.2.2.2.2.2.2.2.2.2.2.2.2.2.2.2.2.2.2.2.2.2.2.2.2.2.2.2.2.2.2.2.2.2.2.2.2.2.2.2.2.2.2.2.2.2.2.2) := by
  obtain ⟨p, hp3, rfl⟩ := hp
  obtain ⟨k1, k2, k3⟩ := zTK_ok hx
  have h1c := h1.1
  rw [h1c] at h1
  unfold fn_Parser_acceptText
  rw [h1c]
  refine zwp_seq (sp_tokens hx h1 _ _ _ _) (fun q hq => ?_)
  refine zwp_seq (sp_fault hq k1 k2 _ _ _ p hp3 _) (fun r hr => ?_)
  obtain ⟨⟨f1, f2⟩, p', hp', hpr⟩ := hr
  have hne : ¬ r.1 = -1 := by
    cases hbd : zbad zs0 (zTK tx) with
    | some t =>
      obtain ⟨j, hj, hrj⟩ := f1 t hbd
      have hjl := zgetlt hj
      rw [hrj]; exact nI_ne_neg (by omega) (by decide)
    | none =>
      obtain ⟨s', hs'⟩ := zbad_go hbd
      rw [(f2 s' hbd hs').2 (zacc_f hb hs')]; exact nI_ne_neg (by omega) (by decide)
  exact zwp_f hne (zwp_some ⟨rfl, ⟨p', hpr, hp'⟩, h_0, h_1, h_2, h_3⟩)
/-- accept of the class -/
theorem c_accept (hx : ztx tx) {l : List (Nat × Nat × Nat)} (n_text_count : Int32) (n_text_characters : Nat → Int32) (n_tokens_count : Int32) (n_tokens_kinds : Nat → Int32) (n_tokens_starts : Nat → Int32) (n_tokens_details : Nat → Int32) (n_syntax_state : Int32) (n_syntax_depth : Int32) (n_syntax_links : Int32) (n_syntax_primes : Int32) (n_syntax_dotsDue : Int32) (n_printer_work_count : Int32) (n_printer_work_items : Nat → Int32) (n_speaker_work_count : Int32) (n_speaker_work_items : Nat → Int32) (n_plain_tree_count : Int32) (n_plain_tree_sums : Int32) (n_plain_tree_kinds : Nat → Int32) (n_plain_tree_details : Nat → Int32) (n_plain_tree_lefts : Nat → Int32) (n_plain_tree_rights : Nat → Int32) (n_plain_tree_roots : Nat → Int32) (n_plain_tree_joints : Nat → Int32) (n_plain_builder_afterOperand : Int32) (n_plain_builder_joint : Int32) (n_plain_builder_operands_count : Int32) (n_plain_builder_operands_items : Nat → Int32) (n_plain_builder_operators_count : Int32) (n_plain_builder_operators_items : Nat → Int32) (n_plain_builder_primes_count : Int32) (n_plain_builder_primes_items : Nat → Int32) (n_plain_printed_count : Int32) (n_plain_printed_characters : Nat → Int32) (n_plain_spoken_count : Int32) (n_plain_spoken_characters : Nat → Int32) (n_tight_tree_count : Int32) (n_tight_tree_sums : Int32) (n_tight_tree_kinds : Nat → Int32) (n_tight_tree_details : Nat → Int32) (n_tight_tree_lefts : Nat → Int32) (n_tight_tree_rights : Nat → Int32) (n_tight_tree_roots : Nat → Int32) (n_tight_tree_joints : Nat → Int32) (n_tight_builder_afterOperand : Int32) (n_tight_builder_joint : Int32) (n_tight_builder_operands_count : Int32) (n_tight_builder_operands_items : Nat → Int32) (n_tight_builder_operators_count : Int32) (n_tight_builder_operators_items : Nat → Int32) (n_tight_builder_primes_count : Int32) (n_tight_builder_primes_items : Nat → Int32) (n_tight_printed_count : Int32) (n_tight_printed_characters : Nat → Int32) (n_tight_spoken_count : Int32) (n_tight_spoken_characters : Nat → Int32) (n_wide_tree_count : Int32) (n_wide_tree_sums : Int32) (n_wide_tree_kinds : Nat → Int32) (n_wide_tree_details : Nat → Int32) (n_wide_tree_lefts : Nat → Int32) (n_wide_tree_rights : Nat → Int32) (n_wide_tree_roots : Nat → Int32) (n_wide_tree_joints : Nat → Int32) (n_wide_builder_afterOperand : Int32) (n_wide_builder_joint : Int32) (n_wide_builder_operands_count : Int32) (n_wide_builder_operands_items : Nat → Int32) (n_wide_builder_operators_count : Int32) (n_wide_builder_operators_items : Nat → Int32) (n_wide_builder_primes_count : Int32) (n_wide_builder_primes_items : Nat → Int32) (n_wide_printed_count : Int32) (n_wide_printed_characters : Nat → Int32) (n_wide_spoken_count : Int32) (n_wide_spoken_characters : Nat → Int32) (n_tightAndWide_tree_count : Int32) (n_tightAndWide_tree_sums : Int32) (n_tightAndWide_tree_kinds : Nat → Int32) (n_tightAndWide_tree_details : Nat → Int32) (n_tightAndWide_tree_lefts : Nat → Int32) (n_tightAndWide_tree_rights : Nat → Int32) (n_tightAndWide_tree_roots : Nat → Int32) (n_tightAndWide_tree_joints : Nat → Int32) (n_tightAndWide_builder_afterOperand : Int32) (n_tightAndWide_builder_joint : Int32) (n_tightAndWide_builder_operands_count : Int32) (n_tightAndWide_builder_operands_items : Nat → Int32) (n_tightAndWide_builder_operators_count : Int32) (n_tightAndWide_builder_operators_items : Nat → Int32) (n_tightAndWide_builder_primes_count : Int32) (n_tightAndWide_builder_primes_items : Nat → Int32) (n_tightAndWide_printed_count : Int32) (n_tightAndWide_printed_characters : Nat → Int32) (n_tightAndWide_spoken_count : Int32) (n_tightAndWide_spoken_characters : Nat → Int32) (h1 : zstr 80 n_text_count n_text_characters tx) (hp : ∃ p, p ≤ 3 ∧ n_syntax_primes = nI p) (h_0 : zRdg l 0 n_plain_tree_count n_plain_tree_sums n_plain_tree_kinds n_plain_tree_details n_plain_tree_lefts n_plain_tree_rights n_plain_tree_roots n_plain_tree_joints n_plain_printed_count n_plain_printed_characters n_plain_spoken_count n_plain_spoken_characters) (h_1 : zRdg l 1 n_tight_tree_count n_tight_tree_sums n_tight_tree_kinds n_tight_tree_details n_tight_tree_lefts n_tight_tree_rights n_tight_tree_roots n_tight_tree_joints n_tight_printed_count n_tight_printed_characters n_tight_spoken_count n_tight_spoken_characters) (h_2 : zRdg l 2 n_wide_tree_count n_wide_tree_sums n_wide_tree_kinds n_wide_tree_details n_wide_tree_lefts n_wide_tree_rights n_wide_tree_roots n_wide_tree_joints n_wide_printed_count n_wide_printed_characters n_wide_spoken_count n_wide_spoken_characters) (h_3 : zRdg l 3 n_tightAndWide_tree_count n_tightAndWide_tree_sums n_tightAndWide_tree_kinds n_tightAndWide_tree_details n_tightAndWide_tree_lefts n_tightAndWide_tree_rights n_tightAndWide_tree_roots n_tightAndWide_tree_joints n_tightAndWide_printed_count n_tightAndWide_printed_characters n_tightAndWide_spoken_count n_tightAndWide_spoken_characters) :
    zwp (fn_Parser_accept n_text_count n_text_characters n_tokens_count n_tokens_kinds n_tokens_starts n_tokens_details n_syntax_state n_syntax_depth n_syntax_links n_syntax_primes n_syntax_dotsDue n_printer_work_count n_printer_work_items n_speaker_work_count n_speaker_work_items n_plain_tree_count n_plain_tree_sums n_plain_tree_kinds n_plain_tree_details n_plain_tree_lefts n_plain_tree_rights n_plain_tree_roots n_plain_tree_joints (zb2 false) (zb2 false) n_plain_builder_afterOperand n_plain_builder_joint n_plain_builder_operands_count n_plain_builder_operands_items n_plain_builder_operators_count n_plain_builder_operators_items n_plain_builder_primes_count n_plain_builder_primes_items n_plain_printed_count n_plain_printed_characters n_plain_spoken_count n_plain_spoken_characters n_tight_tree_count n_tight_tree_sums n_tight_tree_kinds n_tight_tree_details n_tight_tree_lefts n_tight_tree_rights n_tight_tree_roots n_tight_tree_joints (zb2 true) (zb2 false) n_tight_builder_afterOperand n_tight_builder_joint n_tight_builder_operands_count n_tight_builder_operands_items n_tight_builder_operators_count n_tight_builder_operators_items n_tight_builder_primes_count n_tight_builder_primes_items n_tight_printed_count n_tight_printed_characters n_tight_spoken_count n_tight_spoken_characters n_wide_tree_count n_wide_tree_sums n_wide_tree_kinds n_wide_tree_details n_wide_tree_lefts n_wide_tree_rights n_wide_tree_roots n_wide_tree_joints (zb2 false) (zb2 true) n_wide_builder_afterOperand n_wide_builder_joint n_wide_builder_operands_count n_wide_builder_operands_items n_wide_builder_operators_count n_wide_builder_operators_items n_wide_builder_primes_count n_wide_builder_primes_items n_wide_printed_count n_wide_printed_characters n_wide_spoken_count n_wide_spoken_characters n_tightAndWide_tree_count n_tightAndWide_tree_sums n_tightAndWide_tree_kinds n_tightAndWide_tree_details n_tightAndWide_tree_lefts n_tightAndWide_tree_rights n_tightAndWide_tree_roots n_tightAndWide_tree_joints (zb2 true) (zb2 true) n_tightAndWide_builder_afterOperand n_tightAndWide_builder_joint n_tightAndWide_builder_operands_count n_tightAndWide_builder_operands_items n_tightAndWide_builder_operators_count n_tightAndWide_builder_operators_items n_tightAndWide_builder_primes_count n_tightAndWide_builder_primes_items n_tightAndWide_printed_count n_tightAndWide_printed_characters n_tightAndWide_spoken_count n_tightAndWide_spoken_characters) (fun r => r.1 = zaccA tx ∧ (∃ p, p ≤ 3 ∧ r.2.2.2.2.2.2.2.2.1 = nI p) ∧ zRdg (zaccL tx l) 0 r.2.2.2.2.2.2.2.2.2.2.2.2.2.2.1 r.2.2.2.2.2.2.2.2.2.2.2.2.2.2.2.1 r.2.2.2.2.2.2.2.2.2.2.2.2.2.2.2.2.1 r.2.2.2.2.2.2.2.2.2.2.2.2.2.2.2.2.2.1 r.2.2.2.2.2.2.2.2.2.2.2.2.2.2.2.2.2.2.1 r.2.2.2.2.2.2.2.2.2.2.2.2.2.2.2.2.2.2.2.1 r.2.2.2.2.2.2.2.2.2.2.2.2.2.2.2.2.2.2.2.2.1 r.2.2.2.2.2.2.2.2.2.2.2.2.2.2.2.2.2.2.2.2.2.1 r.2.2.2.2.2.2.2.2.2.2.2.2.2.2.2.2.2.2.2.2.2.2.2.2.2.2.2.2.2.2.1 r.2.2.2.2.2.2.2.2.2.2.2.2.2.2.2.2.2.2.2.2.2.2.2.2.2.2.2.2.2.2.2.1 r.2.2.2.2.2.2.2.2.2.2.2.2.2.2.2.2.2.2.2.2.2.2.2.2.2.2.2.2.2.2.2.2.1 r.2.2.2.2.2.2.2.2.2.2.2.2.2.2.2.2.2.2.2.2.2.2.2.2.2.2.2.2.2.2.2.2.2.1 ∧ zRdg (zaccL tx l) 1 r.2.2.2.2.2.2.2.2.2.2.2.2.2.2.2.2.2.2.2.2.2.2.2.2.2.2.2.2.2.2.2.2.2.2.1 r.2.2.2.2.2.2.2.2.2.2.2.2.2.2.2.2.2.2.2.2.2.2.2.2.2.2.2.2.2.2.2.2.2.2.2.1 r.2.2.2.2.2.2.2.2.2.2.2.2.2.2.2.2.2.2.2.2.2.2.2.2.2.2.2.2.2.2.2.2.2.2.2.2.1 r.2.2.2.2.2.2.2.2.2.2.2.2.2.2.2.2.2.2.2.2.2.2.2.2.2.2.2.2.2.2.2.2.2.2.2.2.2.1 r.2.2.2.2.2.2.2.2.2.2.2.2.2.2.2.2.2.2.2.2.2.2.2.2.2.2.2.2.2.2.2.2.2.2.2.2.2.2.1 r.2.2.2.2.2.2.2.2.2.2.2.2.2.2.2.2.2.2.2.2.2.2.2.2.2.2.2.2.2.2.2.2.2.2.2.2.2.2.2.1 r.2.2.2.2.2.2.2.2.2.2.2.2.2.2.2.2.2.2.2.2.2.2.2.2.2.2.2.2.2.2.2.2.2.2.2.2.2.2.2.2.1 r.2.2.2.2.2.2.2.2.2.2.2.2.2.2.2.2.2.2.2.2.2.2.2.2.2.2.2.2.2.2.2.2.2.2.2.2.2.2.2.2.2.1 r.2.2.2.2.2.2.2.2.2.2.2.2.2.2.2.2.2.2.2.2.2.2.2.2.2.2.2.2.2.2.2.2.2.2.2.2.2.2.2.2.2.2.2.2.2.2.2.2.2.2.1 r.2.2.2.2.2.2.2.2.2.2.2.2.2.2.2.2.2.2.2.2.2.2.2.2.2.2.2.2.2.2.2.2.2.2.2.2.2.2.2.2.2.2.2.2.2.2.2.2.2.2.2.1 r.2.2.2.2.2.2.2.2.2.2.2.2.2.2.2.2.2.2.2.2.2.2.2.2.2.2.2.2.2.2.2.2.2.2.2.2.2.2.2.2.2.2.2.2.2.2.2.2.2.2.2.2.1 r.2.2.2.2.2.2.2.2.2.2.2.2.2.2.2.2.2.2.2.2.2.2.2.2.2.2.2.2.2.2.2.2.2.2.2.2.2.2.2.2.2.2.2.2.2.2.2.2.2.2.2.2.2.1 ∧ zRdg (zaccL tx l) 2 r.2.2.2.2.2.2.2.2.2.2.2.2.2.2.2.2.2.2.2.2.2.2.2.2.2.2.2.2.2.2.2.2.2.2.2.2.2.2.2.2.2.2.2.2.2.2.2.2.2.2.2.2.2.2.1 r.2.2.2.2.2.2.2.2.2.2.2.2.2.2.2.2.2.2.2.2.2.2.2.2.2.2.2.2.2.2.2.2.2.2.2.2.2.2.2.2.2.2.2.2.2.2.2.2.2.2.2.2.2.2.2.1 r.2.2.2.2.2.2.2.2.2.2.2.2.2.2.2.2.2.2.2.2.2.2.2.2.2.2.2.2.2.2.2.2.2.2.2.2.2.2.2.2.2.2.2.2.2.2.2.2.2.2.2.2.2.2.2.2.1 r.2.2.2.2.2.2.2.2.2.2.2.2.2.2.2.2.2.2.2.2.2.2.2.2.2.2.2.2.2.2.2.2.2.2.2.2.2.2.2.2.2.2.2.2.2.2.2.2.2.2.2.2.2.2.2.2.2.1 r.2.2.2.2.2.2.2.2.2.2.2.2.2.2.2.2.2.2.2.2.2.2.2.2.2.2.2.2.2.2.2.2.2.2.2.2.2.2.2.2.2.2.2.2.2.2.2.2.2.2.2.2.2.2.2.2.2.2.1 r.2.2.2.2.2.2.2.2.2.2.2.2.2.2.2.2.2.2.2.2.2.2.2.2.2.2.2.2.2.2.2.2.2.2.2.2.2.2.2.2.2.2.2.2.2.2.2.2.2.2.2.2.2.2.2.2.2.2.2.1 r.2.2.2.2.2.2.2.2.2.2.2.2.2.2.2.2.2.2.2.2.2.2.2.2.2.2.2.2.2.2.2.2.2.2.2.2.2.2.2.2.2.2.2.2.2.2.2.2.2.2.2.2.2.2.2.2.2.2.2.2.1 r.2.2.2.2.2.2.2.2.2.2.2.2.2.2.2.2.2.2.2.2.2.2.2.2.2.2.2.2.2.2.2.2.2.2.2.2.2.2.2.2.2.2.2.2.2.2.2.2.2.2.2.2.2.2.2.2.2.2.2.2.2.1 r.2.2.2.2.2.2.2.2.2.2.2.2.2.2.2.2.2.2.2.2.2.2.2.2.2.2.2.2.2.2.2.2.2.2.2.2.2.2.2.2.2.2.2.2.2.2.2.2.2.2.2.2.2.2.2.2.2.2.2.2.2.2.2.2.2.2.2.2.2.2.1 r.2.2.2.2.2.2.2.2.2.2.2.2.2.2.2.2.2.2.2.2.2.2.2.2.2.2.2.2.2.2.2.2.2.2.2.2.2.2.2.2.2.2.2.2.2.2.2.2.2.2.2.2.2.2.2.2.2.2.2.2.2.2.2.2.2.2.2.2.2.2.2.1 r.2.2.2.2.2.2.2.2.2.2.2.2.2.2.2.2.2.2.2.2.2.2.2.2.2.2.2.2.2.2.2.2.2.2.2.2.2.2.2.2.2.2.2.2.2.2.2.2.2.2.2.2.2.2.2.2.2.2.2.2.2.2.2.2.2.2.2.2.2.2.2.2.1 r.2.2.2.2.2.2.2.2.2.2.2.2.2.2.2.2.2.2.2.2.2.2.2.2.2.2.2.2.2.2.2.2.2.2.2.2.2.2.2.2.2.2.2.2.2.2.2.2.2.2.2.2.2.2.2.2.2.2.2.2.2.2.2.2.2.2.2.2.2.2.2.2.2.1 ∧ zRdg (zaccL tx l) 3 r.2.2.2.2.2.2.2.2.2.2.2.2.2.2.2.2.2.2.2.2.2.2.2.2.2.2.2.2.2.2.2.2.2.2.2.2.2.2.2.2.2.2.2.2.2.2.2.2.2.2.2.2.2.2.2.2.2.2.2.2.2.2.2.2.2.2.2.2.2.2.2.2.2.2.1 r.2.2.2.2.2.2.2.2.2.2.2.2.2.2.2.2.2.2.2.2.2.2.2.2.2.2.2.2.2.2.2.2.2.2.2.2.2.2.2.2.2.2.2.2.2.2.2.2.2.2.2.2.2.2.2.2.2.2.2.2.2.2.2.2.2.2.2.2.2.2.2.2.2.2.2.1 r.2.2.2.2.2.2.2.2.2.2.2.2.2.2.2.2.2.2.2.2.2.2.2.2.2.2.2.2.2.2.2.2.2.2.2.2.2.2.2.2.2.2.2.2.2.2.2.2.2.2.2.2.2.2.2.2.2.2.2.2.2.2.2.2.2.2.2.2.2.2.2.2.2.2.2.2.1 r.2.2.2.2.2.2.2.2.2.2.2.2.2.2.2.2.2.2.2.2.2.2.2.2.2.2.2.2.2.2.2.2.2.2.2.2.2.2.2.2.2.2.2.2.2.2.2.2.2.2.2.2.2.2.2.2.2.2.2.2.2.2.2.2.2.2.2.2.2.2.2.2.2.2.2.2.2.1 r.2.2.2.2.2.2.2.2.2.2.2.2.2.2.2.2.2.2.2.2.2.2.2.2.2.2.2.2.2.2.2.2.2.2.2.2.2.2.2.2.2.2.2.2.2.2.2.2.2.2.2.2.2.2.2.2.2.2.2.2.2.2.2.2.2.2.2.2.2.2.2.2.2.2.2.2.2.2.1 r.2.2.2.2.2.2.2.2.2.2.2.2.2.2.2.2.2.2.2.2.2.2.2.2.2.2.2.2.2.2.2.2.2.2.2.2.2.2.2.2.2.2.2.2.2.2.2.2.2.2.2.2.2.2.2.2.2.2.2.2.2.2.2.2.2.2.2.2.2.2.2.2.2.2.2.2.2.2.2.1 r.2.2.2.2.2.2.2.2.2.2.2.2.2.2.2.2.2.2.2.2.2.2.2.2.2.2.2.2.2.2.2.2.2.2.2.2.2.2.2.2.2.2.2.2.2.2.2.2.2.2.2.2.2.2.2.2.2.2.2.2.2.2.2.2.2.2.2.2.2.2.2.2.2.2.2.2.2.2.2.2.1 r.2.2.2.2.2.2.2.2.2.2.2.2.2.2.2.2.2.2.2.2.2.2.2.2.2.2.2.2.2.2.2.2.2.2.2.2.2.2.2.2.2.2.2.2.2.2.2.2.2.2.2.2.2.2.2.2.2.2.2.2.2.2.2.2.2.2.2.2.2.2.2.2.2.2.2.2.2.2.2.2.2.1 r.2.2.2.2.2.2.2.2.2.2.2.2.2.2.2.2.2.2.2.2.2.2.2.2.2.2.2.2.2.2.2.2.2.2.2.2.2.2.2.2.2.2.2.2.2.2.2.2.2.2.2.2.2.2.2.2.2.2.2.2.2.2.2.2.2.2.2.2.2.2.2.2.2.2.2.2.2.2.2.2.2.2.2.2.2.2.2.2.2.2.1 r.2.2.2.2.2.2.2.2.2.2.2.2.2.2.2.2.2.2.2.2.2.2.2.2.2.2.2.2.2.2.2.2.2.2.2.2.2.2.2.2.2.2.2.2.2.2.2.2.2.2.2.2.2.2.2.2.2.2.2.2.2.2.2.2.2.2.2.2.2.2.2.2.2.2.2.2.2.2.2.2.2.2.2.2.2.2.2.2.2.2.2.1 r.2.2.2.2.2.2.2.2.2.2.2.2.2.2.2.2.2.2.2.2.2.2.2.2.2.2.2.2.2.2.2.2.2.2.2.2.2.2.2.2.2.2.2.2.2.2.2.2.2.2.2.2.2.2.2.2.2.2.2.2.2.2.2.2.2.2.2.2.2.2.2.2.2.2.2.2.2.2.2.2.2.2.2.2.2.2.2.2.2.2.2.2.1 r.2.2.2.2.2.2.2.2.2.2.2.2.2.2.2.2.2.2.2.2.2.2.2.2.2.2.2.2.2.2.2.2.2.2.2.2.2.2.2.2.2.2.2.2.2.2.2.2.2.2.2.2.2.2.2.2.2.2.2.2.2.2.2.2.2.2.2.2.2.2.2.2.2.2.2.2.2.2.2.2.2.2.2.2.2.2.2.2.2.2.2.2.2) := by
  unfold fn_Parser_accept zaccA zaccL
  cases hb : zaccB tx with
  | true => exact zwp_ret (c_acc1 hx _ _ _ _ _ _ _ _ _ _ _ _ _ _ _ _ _ _ _ _ _ _ _ _ _ _ _ _ _ _ _ _ _ _ _ _ _ _ _ _ _ _ _ _ _ _ _ _ _ _ _ _ _ _ _ _ _ _ _ _ _ _ _ _ _ _ _ _ _ _ _ _ _ _ _ _ _ _ _ _ _ _ _ _ _ _ _ _ _ _ _ _ _ _ _ h1 hp hb) (fun r hr => hr)
  | false => exact zwp_ret (c_acc0 hx _ _ _ _ _ _ _ _ _ _ _ _ _ _ _ _ _ _ _ _ _ _ _ _ _ _ _ _ _ _ _ _ _ _ _ _ _ _ _ _ _ _ _ _ _ _ _ _ _ _ _ _ _ _ _ _ _ _ _ _ _ _ _ _ _ _ _ _ _ _ _ _ _ _ _ _ _ _ _ _ _ _ _ _ _ _ _ _ _ _ _ _ _ _ _ _ _ _ _ _ _ _ _ h1 hp hb h_0 h_1 h_2 h_3) (fun r hr => hr)
theorem r_copy {l : List (Nat × Nat × Nat)} (h80 : l.length ≤ 80) (m_length : Int32) (m_text : Nat → Int32) : ∀ (n i : Nat) (m_tokens : Int32) (m_newTokens : Int32) (m_token : Int32) (m_tokenAmount : Int32) (m_ahead : Int32) (m_depth : Int32) (m_linkMany : Int32) (m_isRange : Int32) (m_primes : Int32) (m_kind : Nat → Int32) (m_amount : Nat → Int32) (m_newKind : Nat → Int32) (m_newAmount : Nat → Int32), i ≤ l.length + 1 → l.length + 1 - i < n → m_tokens = nI l.length → (∀ j, j < i → m_kind j = m_newKind j ∧ m_amount j = m_newAmount j) → zqr m_newKind m_newAmount l →
    zwp (fn_Ref_accept_L22 m_length m_text n m_tokens m_newTokens m_token m_tokenAmount m_ahead m_depth m_linkMany m_isRange m_primes m_kind m_amount m_newKind m_newAmount (nI i)) (fun r => r.1 = m_linkMany ∧ r.2.1 = nI l.length ∧ zqr r.2.2.2.2.2.2.2.2.2.2.1 r.2.2.2.2.2.2.2.2.2.2.2.1 l)
  | 0, _, _, _, _, _, _, _, _, _, _, _, _, _, _, _, h, _, _, _ => absurd h (Nat.not_lt_zero _)
  | n + 1, i, m_tokens, m_newTokens, m_token, m_tokenAmount, m_ahead, m_depth, m_linkMany, m_isRange, m_primes, m_kind, m_amount, m_newKind, m_newAmount, hi, hn, ht, hk, hz => by
    unfold fn_Ref_accept_L22
    rw [ht]
    by_cases he : i = l.length + 1
    · refine zwp_t ((nI_lti (by omega) (by omega)).mpr (by omega)) (zwp_some ⟨rfl, rfl, ?_, ?_⟩)
      · intro j a hj
        have := zgetlt hj
        show m_kind j = _
        rw [(hk j (by omega)).1]; exact hz.1 j a hj
      · intro j a hj
        have := zgetlt hj
        show m_amount j = _
        rw [(hk j (by omega)).2]; exact hz.2 j a hj
    · have hb := nI_in2 (c := i) (N := 81) (by omega) (by omega)
      refine zwp_f (fun h => absurd ((nI_lti (by omega) (by omega)).mp h) (by omega)) ?_
      rw [nI_clamp (by omega), nI_add1]
      refine zwp_f hb (zwp_f hb (zwp_f hb (zwp_f hb ?_)))
      refine r_copy h80 m_length m_text n (i + 1) _ _ _ _ _ _ _ _ _ _ _ _ _ (by omega) (by omega) rfl (fun j hj => ?_) hz
      by_cases hji : j = i
      · rw [hji, upd_at, upd_at]; exact ⟨rfl, rfl⟩
      · rw [upd_ne hji, upd_ne hji]; exact hk j (by omega)
theorem r_accept (hx : ztx tx) {l : List (Nat × Nat × Nat)} (m_length : Int32) (m_tokens : Int32) (m_newTokens : Int32) (m_token : Int32) (m_tokenAmount : Int32) (m_ahead : Int32) (m_depth : Int32) (m_linkMany : Int32) (m_isRange : Int32) (m_primes : Int32) (m_text : Nat → Int32) (m_kind : Nat → Int32) (m_amount : Nat → Int32) (m_newKind : Nat → Int32) (m_newAmount : Nat → Int32) (h2 : zro m_length m_text tx) (ht : m_tokens = nI l.length) (hq : zqr m_kind m_amount l) :
    zwp (fn_Ref_accept m_length m_tokens m_newTokens m_token m_tokenAmount m_ahead m_depth m_linkMany m_isRange m_primes m_text m_kind m_amount m_newKind m_newAmount) (fun r => r.1 = zaccA tx ∧ r.2.1 = nI (zaccL tx l).length ∧ zqr r.2.2.2.2.2.2.2.2.2.2.1 r.2.2.2.2.2.2.2.2.2.2.2.1 (zaccL tx l)) := by
  have hlen := hx.1
  unfold fn_Ref_accept zaccA zaccL
  refine zwp_seq (r_check hx h2 _ _ _ _ _ _ _ _ _ _) (fun q hq' => ?_)
  obtain ⟨f1, f2⟩ := hq'
  cases hb : zaccB tx with
  | true =>
    obtain ⟨hf, s, hg, hs⟩ := zacc_t hx hb
    obtain ⟨g1, g2, g3, g4, g5⟩ := (f2 s (zbad_none hg) hg).1 hs
    have hl := zlinks (t := zrt_t 0) (w := zrt_w 0) hf hg (zfit_of hx hf)
    have hl' : (zR (zJ (zSu (zTK tx) 0))).length = s.2.2.1 := hl
    rw [g1]
    refine zwp_t rfl (zwp_mono (r_copy (l := zTK tx) hf.2.2 _ _ zFU 0 _ _ _ _ _ _ _ _ _ _ _ _ _ (Nat.zero_le _) (Nat.lt_of_le_of_lt (by have := hf.2.2; omega : (zTK tx).length + 1 - 0 ≤ 81) (by decide)) g2 (fun j hj => absurd hj (Nat.not_lt_zero _)) g4) (fun r hr => ⟨?_, hr.2⟩))
    rw [hr.1, g3, if_pos rfl, hl']
  | false =>
    have hne : ¬ q.1 = -3 := by
      cases hbd : zbad zs0 (zTK tx) with
      | some t =>
        have hm : t.2.2 < 2 ^ 31 := by
          have := zTK_pos hx t (zbad_mem hbd)
          omega
        rw [f1 t hbd]; exact nI_ne_neg hm (by decide)
      | none =>
        obtain ⟨s', hs'⟩ := zbad_go hbd
        rw [(f2 s' hbd hs').2 (zacc_f hb hs')]; exact nI_ne_neg (by omega) (by decide)
    exact zwp_f hne (zwp_some ⟨rfl, ht, hq⟩)
end AC
