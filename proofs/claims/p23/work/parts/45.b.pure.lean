/-! Trees out of tokens: nodes (kind, detail, left, right), operands, waiting operators (kind, primes). -/
def zap (q : Nat × Nat) (nd : List (Nat × Nat × Nat × Nat)) (D : List Nat) : List (Nat × Nat × Nat × Nat) × List Nat :=
  if 7 ≤ q.1 ∧ q.1 ≤ 12 then (nd ++ [(q.1, q.2, D.getD 1 0, D.getD 0 0)], nd.length :: D.drop 2) else (nd ++ [(q.1, q.2, D.getD 0 0, 0)], nd.length :: D.drop 1)
def zdown (lev : Nat → Nat) (m : Nat) : List (Nat × Nat) → List (Nat × Nat × Nat × Nat) → List Nat → List (Nat × Nat × Nat × Nat) × List Nat × List (Nat × Nat)
  | [], nd, D => (nd, D, [])
  | q :: O, nd, D => if m ≤ lev q.1 then zdown lev m O (zap q nd D).1 (zap q nd D).2 else (nd, D, q :: O)
def zlev (t w : Bool) (k : Nat) : Nat := if 3 ≤ k ∧ k ≤ 6 then (if w = true then 3 else 4) else if k = 7 ∨ k = 8 then 1 else if k = 13 then 2 else if k = 9 ∨ k = 10 then (if t = true then 3 else 4) else if k = 12 then 4 else if k = 11 then 5 else 0
def zcom (k : Nat) : Nat := if k = 7 ∨ k = 8 then 1 else if k = 9 ∨ k = 10 then 3 else 6
def zb2 (b : Bool) : Int32 := if b = true then 1 else 0
theorem zlev_ok : ∀ k, k < 25 → ∀ t w : Bool, fn_Builder_waitingLevel (zb2 t) (zb2 w) (nI k) = nI (zlev t w k) := by decide +kernel
theorem zcom_ok : ∀ k, k < 25 → fn_Builder_comingLevel (nI k) = nI (zcom k) := by decide +kernel
theorem zlev_lt (t w : Bool) (k : Nat) : zlev t w k < 6 := by
  unfold zlev
  repeat' split
  all_goals omega
def zbb (k : Nat) : Nat := if 7 ≤ k ∧ k ≤ 12 then 1 else 0
/-- waiting operators that take two operands -/
def zbn : List (Nat × Nat) → Nat
  | [] => 0
  | q :: O => zbn O + zbb q.1
/-! the class's builder -/
def zgl (q : Nat × Nat × Nat × Nat) : Int32 := if q.1 ≤ 2 then -1 else nI q.2.2.1
def zgr (q : Nat × Nat × Nat × Nat) : Int32 := if 7 ≤ q.1 ∧ q.1 ≤ 12 then nI q.2.2.2 else -1
/-- the class's nodes -/
def zct (tc : Int32) (tk td tl tr : Nat → Int32) (nd : List (Nat × Nat × Nat × Nat)) : Prop :=
  tc = nI nd.length ∧ nd.length ≤ 160 ∧ zrw tk (fun q => nI q.1) nd ∧ zrw td (fun q => nI q.2.1) nd ∧ zrw tl zgl nd ∧ zrw tr zgr nd
theorem sp_node {tc : Int32} {tk td tl tr : Nat → Int32} {nd : List (Nat × Nat × Nat × Nat)} (h : zct tc tk td tl tr nd) (hl : nd.length < 160) (a : Nat × Nat × Nat × Nat) {x1 x2 x3 x4 : Int32} (e1 : x1 = nI a.1) (e2 : x2 = nI a.2.1) (e3 : x3 = zgl a) (e4 : x4 = zgr a) :
    zwp (fn_Tree_addNode tc tk td tl tr x1 x2 x3 x4) (fun r => r.1 = nI nd.length ∧ zct r.2.1 r.2.2.1 r.2.2.2.1 r.2.2.2.2.1 r.2.2.2.2.2 (nd ++ [a])) := by
  obtain ⟨rfl, -, h1, h2, h3, h4⟩ := h
  unfold fn_Tree_addNode
  refine zwp_t (nI_lt (b := 160) hl (by omega)) (zwp_f (nI_in hl (by omega)) (zwp_f (nI_in hl (by omega)) (zwp_f (nI_in hl (by omega)) (zwp_f (nI_in hl (by omega)) (zwp_some ⟨?_, ?_, ?_, ?_, ?_, ?_, ?_⟩)))))
  · show nI nd.length + 1 - 1 = _; rw [nI_add1, nI_sub1]
  · show nI nd.length + 1 = _; rw [nI_add1, List.length_append]; rfl
  · rw [List.length_append]; exact hl
  · show zrw (upd tk (nI nd.length).toNatClampNeg x1) _ _; rw [nI_clamp (by omega)]; exact zrw_push h1 e1
  · show zrw (upd td (nI nd.length).toNatClampNeg x2) _ _; rw [nI_clamp (by omega)]; exact zrw_push h2 e2
  · show zrw (upd tl (nI nd.length).toNatClampNeg x3) _ _; rw [nI_clamp (by omega)]; exact zrw_push h3 e3
  · show zrw (upd tr (nI nd.length).toNatClampNeg x4) _ _; rw [nI_clamp (by omega)]; exact zrw_push h4 e4
/-- nodes, operands and operators of the class's builder -/
def zcb (Dc : Int32) (Di : Nat → Int32) (Oc : Int32) (Oi : Nat → Int32) (Pc : Int32) (Pi : Nat → Int32) (tc : Int32) (tk td tl tr : Nat → Int32) (nd : List (Nat × Nat × Nat × Nat)) (D : List Nat) (O : List (Nat × Nat)) : Prop :=
  zstk nI 160 Dc Di D ∧ zstk (fun q => nI q.1) 160 Oc Oi O ∧ zstk (fun q => nI q.2) 160 Pc Pi O ∧ zct tc tk td tl tr nd
section CB
variable {Dc : Int32} {Di : Nat → Int32} {Oc : Int32} {Oi : Nat → Int32} {Pc : Int32} {Pi : Nat → Int32} {tc : Int32} {tk td tl tr : Nat → Int32} {nd : List (Nat × Nat × Nat × Nat)} {D : List Nat} {O : List (Nat × Nat)}
theorem sp_top34 {a : Nat} {q : Nat × Nat} (h1 : zstk nI 160 Dc Di (a :: D)) (h4 : zct tc tk td tl tr nd) (hl : nd.length < 160) (r : Nat) (k0 : Int32) (oc pc : Int32) (e4 : k0 = zgr (q.1, q.2, a, r)) (hq : 3 ≤ q.1) :
    zwp (fn_Builder_applyTop_b34 Oi Pi Dc Di oc pc tc tk td tl tr (nI q.1) (nI q.2) k0) (fun s => s.2.2.1 = oc ∧ s.2.2.2.1 = pc ∧ zstk nI 160 s.1 s.2.1 (nd.length :: D) ∧ zct s.2.2.2.2.1 s.2.2.2.2.2.1 s.2.2.2.2.2.2.1 s.2.2.2.2.2.2.2.1 s.2.2.2.2.2.2.2.2 (nd ++ [(q.1, q.2, a, r)])) := by
  unfold fn_Builder_applyTop_b34
  rw [sp_pop (by omega) h1, Option.bind_some]
  refine zwp_seq (sp_node h4 hl (q.1, q.2, a, r) rfl rfl (by unfold zgl; rw [if_neg (by show ¬ q.1 ≤ 2; omega)]) e4) (fun s hs => ?_)
  refine zwp_seq (sp_push (g := nI) nd.length (by omega) (zstk_tail h1) (by have := h1.2.1; simp at this; omega) hs.1) (fun u hu => zwp_some ⟨rfl, rfl, hu, hs.2⟩)
theorem sp_apply {q : Nat × Nat} (h : zcb Dc Di Oc Oi Pc Pi tc tk td tl tr nd D (q :: O)) (hl : nd.length < 160) (hD : zbb q.1 + 1 ≤ D.length) (hq : 3 ≤ q.1) (hq2 : q.1 < 25) :
    zwp (fn_Builder_applyTop Dc Di Oc Oi Pc Pi tc tk td tl tr) (fun s => zcb s.1 s.2.1 s.2.2.1 Oi s.2.2.2.1 Pi s.2.2.2.2.1 s.2.2.2.2.2.1 s.2.2.2.2.2.2.1 s.2.2.2.2.2.2.2.1 s.2.2.2.2.2.2.2.2 (zap q nd D).1 (zap q nd D).2 O) := by
  obtain ⟨h1, h2, h3, h4⟩ := h
  unfold fn_Builder_applyTop
  rw [sp_pop (by omega) h2, Option.bind_some, sp_pop (by omega) h3, Option.bind_some]
  dsimp only
  rw [(kfn q.1 hq2).2.2.1]
  unfold zap
  unfold zbb at hD
  by_cases hb : 7 ≤ q.1 ∧ q.1 ≤ 12
  · rw [if_pos hb] at hD ⊢
    rw [if_pos hb]
    refine zwp_f (by decide) ?_
    match D, hD, h1 with
    | r :: a :: D', _, h1 =>
      rw [sp_pop (by omega) h1, Option.bind_some]
      refine zwp_mono (sp_top34 (q := q) (zstk_tail h1) h4 hl r (nI r) _ _ (by unfold zgr; rw [if_pos hb]) hq) (fun s hs => ⟨hs.2.2.1, ?_, ?_, hs.2.2.2⟩)
      · rw [hs.1]; exact zstk_tail h2
      · rw [hs.2.1]; exact zstk_tail h3
    | [r], h, _ => simp at h
    | [], h, _ => simp at h
  · rw [if_neg hb] at hD ⊢
    rw [if_neg hb]
    refine zwp_t rfl ?_
    match D, hD, h1 with
    | a :: D', _, h1 =>
      refine zwp_mono (sp_top34 (q := q) h1 h4 hl 0 (-1) _ _ (by unfold zgr; rw [if_neg hb]) hq) (fun s hs => ⟨hs.2.2.1, ?_, ?_, hs.2.2.2⟩)
      · rw [hs.1]; exact zstk_tail h2
      · rw [hs.2.1]; exact zstk_tail h3
    | [], h, _ => simp at h
theorem zap_len (q : Nat × Nat) (nd : List (Nat × Nat × Nat × Nat)) (D : List Nat) : (zap q nd D).1.length = nd.length + 1 ∧ (zbb q.1 + 1 ≤ D.length → (zap q nd D).2.length + zbb q.1 = D.length) := by
  unfold zap zbb
  split <;> simp <;> omega
theorem sp_down (t w : Bool) (m : Nat) (hm : m ≤ 6) (hm1 : 1 ≤ m) : ∀ (n : Nat) (O : List (Nat × Nat)) (nd : List (Nat × Nat × Nat × Nat)) (D : List Nat) (Dc : Int32) (Di : Nat → Int32) (Oc Pc tc : Int32) (tk td tl tr : Nat → Int32),
    O.length < n → zcb Dc Di Oc Oi Pc Pi tc tk td tl tr nd D O → nd.length + O.length ≤ 160 → zbn O < D.length → (∀ q ∈ O, 3 ≤ q.1 ∧ q.1 < 25) →
    zwp (fn_Builder_applyDownTo_L8 (zb2 t) (zb2 w) Oi Pi n Dc Di Oc Pc tc tk td tl tr (nI m) (nI O.length))
      (fun s => zcb s.1 s.2.1 s.2.2.1 Oi s.2.2.2.1 Pi s.2.2.2.2.1 s.2.2.2.2.2.1 s.2.2.2.2.2.2.1 s.2.2.2.2.2.2.2.1 s.2.2.2.2.2.2.2.2 (zdown (zlev t w) m O nd D).1 (zdown (zlev t w) m O nd D).2.1 (zdown (zlev t w) m O nd D).2.2)
  | 0, _, _, _, _, _, _, _, _, _, _, _, _, h, _, _, _, _ => absurd h (Nat.not_lt_zero _)
  | n + 1, [], nd, D, _, _, _, _, _, _, _, _, _, _, h, _, _, _ => by
    unfold fn_Builder_applyDownTo_L8
    exact zwp_t (Int32.le_refl _) (zwp_some h)
  | n + 1, q :: O, nd, D, Dc, Di, Oc, Pc, tc, tk, td, tl, tr, hn, h, hc, hb, hk => by
    have hql := hk q (by simp)
    unfold fn_Builder_applyDownTo_L8
    simp only [List.length_cons] at hc hn ⊢
    refine zwp_f (show ¬ nI (O.length + 1) ≤ 0 from nI_ge (a := 0) (by omega) (by omega)) ?_
    rw [sp_top (by omega) h.2.1, Option.bind_some]
    rw [zlev_ok q.1 hql.2]
    have hlv := zlev_lt t w q.1
    unfold zdown
    by_cases hm : m ≤ zlev t w q.1
    · rw [if_pos hm]
      refine zwp_t ((nI_lei (by omega) (by omega)).mpr hm) ?_
      unfold zbn at hb
      have hD : zbb q.1 + 1 ≤ D.length := by omega
      refine zwp_seq (sp_apply h (by omega) hD hql.1 hql.2) (fun s hs => ?_)
      obtain ⟨g1, g2⟩ := zap_len q nd D
      have g2 := g2 hD
      rw [show nI (O.length + 1) + -1 = nI (O.length + 1) - 1 from (Int32.sub_eq_add_neg _ _).symm, nI_sub1]
      exact sp_down t w m (by omega) hm1 n O _ _ _ _ _ _ _ _ _ _ _ (by omega) hs (by omega) (by omega) (fun q hq => hk q (by simp [hq]))
    · rw [if_neg hm]
      exact zwp_f (fun h => hm ((nI_lei (by omega) (by omega)).mp h)) (zwp_some h)
end CB
/-! What the operators' stack keeps. -/
/-- open brackets that wait -/
def zop : List (Nat × Nat) → Nat
  | [] => 0
  | q :: O => zop O + if q.1 = 22 then 1 else 0
/-- kinds that may wait -/
def zwk (k : Nat) : Prop := 3 ≤ k ∧ k ≤ 13 ∨ k = 22
theorem zwk_r {k : Nat} (h : zwk k) : 3 ≤ k ∧ k < 25 := by unfold zwk at h; omega
theorem zlev_1 {t w : Bool} {k : Nat} (h : zwk k) : 1 ≤ zlev t w k ↔ k ≠ 22 := by
  unfold zwk at h; unfold zlev
  constructor
  · intro h1 h2; subst h2; simp at h1
  · intro h1; repeat' split
    all_goals omega
theorem zdown_nil (lev : Nat → Nat) (m : Nat) (nd : List (Nat × Nat × Nat × Nat)) (D : List Nat) : zdown lev m [] nd D = (nd, D, []) := rfl
theorem zdown_inv (lev : Nat → Nat) (m : Nat) : ∀ (O : List (Nat × Nat)) (nd : List (Nat × Nat × Nat × Nat)) (D : List Nat), zbn O < D.length → D.length ≤ nd.length →
    (zdown lev m O nd D).1.length + (zdown lev m O nd D).2.2.length = nd.length + O.length ∧ (zdown lev m O nd D).2.1.length + zbn O = D.length + zbn (zdown lev m O nd D).2.2 ∧ (zdown lev m O nd D).2.1.length ≤ (zdown lev m O nd D).1.length ∧ (zdown lev m O nd D).2.1.length ≤ D.length ∧
    (∃ pre, O = pre ++ (zdown lev m O nd D).2.2 ∧ ∀ q ∈ pre, m ≤ lev q.1) ∧ ∀ q O', (zdown lev m O nd D).2.2 = q :: O' → lev q.1 < m
  | [], nd, D, h, h2 => ⟨rfl, rfl, h2, Nat.le_refl _, ⟨[], rfl, by simp⟩, fun q O' h => by cases h⟩
  | q :: O, nd, D, h, h2 => by
    unfold zdown
    by_cases hm : m ≤ lev q.1
    · rw [if_pos hm]
      obtain ⟨g1, g2⟩ := zap_len q nd D
      rw [show zbn (q :: O) = zbn O + zbb q.1 from rfl] at h
      have hD : zbb q.1 + 1 ≤ D.length := by omega
      have g2 := g2 hD
      have hlt : zbn O < (zap q nd D).2.length := by omega
      have hle : (zap q nd D).2.length ≤ (zap q nd D).1.length := by rw [g1]; omega
      obtain ⟨a1, a2, a3, a4, ⟨pre, a5, a6⟩, a7⟩ := zdown_inv lev m O _ _ hlt hle
      refine ⟨by simp only [List.length_cons]; omega, ?_, a3, by omega, ⟨q :: pre, by rw [List.cons_append, ← a5], ?_⟩, a7⟩
      · rw [show zbn (q :: O) = zbn O + zbb q.1 from rfl]; omega
      · intro q' hq'
        rcases List.mem_cons.mp hq' with rfl | h1
        · exact hm
        · exact a6 q' h1
    · rw [if_neg hm]
      exact ⟨rfl, rfl, h2, Nat.le_refl _, ⟨[], rfl, by simp⟩, fun q' O' h' => by cases h'; omega⟩
theorem zop_app : ∀ a b : List (Nat × Nat), zop (a ++ b) = zop a + zop b
  | [], b => by simp [zop]
  | q :: a, b => by simp only [List.cons_append, zop, zop_app a b]; omega
theorem zop_0 : ∀ a : List (Nat × Nat), (∀ q ∈ a, q.1 ≠ 22) → zop a = 0
  | [], _ => rfl
  | q :: a, h => by
    unfold zop
    rw [zop_0 a (fun x hx => h x (by simp [hx])), if_neg (h q (by simp))]
/-- what the builder keeps: i tokens taken -/
def zinv (σ : Nat × Nat × Nat × Nat × Nat) (i : Nat) (nd : List (Nat × Nat × Nat × Nat)) (D : List Nat) (O : List (Nat × Nat)) (S : List (Nat × Nat)) : Prop :=
  nd.length + O.length ≤ 2 * i ∧ D.length = zbn O + (if σ.1 = 3 then 1 else 0) ∧ D.length ≤ nd.length ∧ D.length ≤ i ∧ (∀ q ∈ O, zwk q.1) ∧ zop O = σ.2.1 ∧
  (σ.1 = 2 → ∃ k O', O = (k, σ.2.2.2.1) :: O' ∧ 3 ≤ k ∧ k ≤ 6) ∧ S.length + σ.2.2.2.2 ≤ 2 * σ.2.2.1 ∧ zsok σ
def zjux (t w : Bool) (af : Bool) (k : Nat) (nd : List (Nat × Nat × Nat × Nat)) (D : List Nat) (O : List (Nat × Nat)) : List (Nat × Nat × Nat × Nat) × List Nat × List (Nat × Nat) :=
  if af = true ∧ (1 ≤ k ∧ k ≤ 6 ∨ k = 22) then ((zdown (zlev t w) 4 O nd D).1, (zdown (zlev t w) 4 O nd D).2.1, (12, 0) :: (zdown (zlev t w) 4 O nd D).2.2) else (nd, D, O)
def zprime : List (Nat × Nat) → List (Nat × Nat)
  | [] => []
  | q :: O => (q.1, q.2 + 1) :: O
def ztk0 (t w : Bool) (af : Bool) (k d : Nat) (nd : List (Nat × Nat × Nat × Nat)) (D : List Nat) (O S : List (Nat × Nat)) (j : Nat) : List (Nat × Nat × Nat × Nat) × List Nat × List (Nat × Nat) × List (Nat × Nat) × Nat :=
  if k = 1 ∨ k = 2 then (nd ++ [(k, d, 0, 0)], nd.length :: D, O, S, j)
  else if 3 ≤ k ∧ k ≤ 6 ∨ k = 22 then (nd, D, (k, 0) :: O, S, j)
  else if k = 24 then (nd, D, zprime O, S, j)
  else if k = 8 ∧ af = false then (nd, D, (13, 0) :: O, S, j)
  else if 7 ≤ k ∧ k ≤ 11 then ((zdown (zlev t w) (zcom k) O nd D).1, (zdown (zlev t w) (zcom k) O nd D).2.1, (k, 0) :: (zdown (zlev t w) (zcom k) O nd D).2.2, S, j)
  else if k = 23 then ((zdown (zlev t w) 1 O nd D).1, (zdown (zlev t w) 1 O nd D).2.1, (zdown (zlev t w) 1 O nd D).2.2.drop 1, S, j)
  else ((zdown (zlev t w) 1 O nd D).1, (zdown (zlev t w) 1 O nd D).2.1.drop 1, (zdown (zlev t w) 1 O nd D).2.2, S ++ [(j, (zdown (zlev t w) 1 O nd D).2.1.getD 0 0)], k)
def ztk (t w : Bool) (af : Bool) (k d : Nat) (nd : List (Nat × Nat × Nat × Nat)) (D : List Nat) (O S : List (Nat × Nat)) (j : Nat) : List (Nat × Nat × Nat × Nat) × List Nat × List (Nat × Nat) × List (Nat × Nat) × Nat :=
  ztk0 t w af k d (zjux t w af k nd D O).1 (zjux t w af k nd D O).2.1 (zjux t w af k nd D O).2.2 S j
section PI
variable {t w : Bool} {σ σ' : Nat × Nat × Nat × Nat × Nat} {i k d : Nat} {nd : List (Nat × Nat × Nat × Nat)} {D : List Nat} {O S : List (Nat × Nat)} {j : Nat}
/-- after the operators of level m and above went -/
theorem zinv_down (m : Nat) (hm : 1 ≤ m) (h3 : D.length = zbn O + 1) (h4 : D.length ≤ nd.length) (h5 : ∀ q ∈ O, zwk q.1) :
    (zdown (zlev t w) m O nd D).1.length + (zdown (zlev t w) m O nd D).2.2.length = nd.length + O.length ∧ (zdown (zlev t w) m O nd D).2.1.length = zbn (zdown (zlev t w) m O nd D).2.2 + 1 ∧ (zdown (zlev t w) m O nd D).2.1.length ≤ (zdown (zlev t w) m O nd D).1.length ∧ (zdown (zlev t w) m O nd D).2.1.length ≤ D.length ∧
    (∀ q ∈ (zdown (zlev t w) m O nd D).2.2, zwk q.1) ∧ zop (zdown (zlev t w) m O nd D).2.2 = zop O ∧ ∀ q O', (zdown (zlev t w) m O nd D).2.2 = q :: O' → zlev t w q.1 < m := by
  obtain ⟨a1, a2, a3, a4, ⟨pre, a5, a6⟩, a7⟩ := zdown_inv (zlev t w) m O nd D (by omega) h4
  refine ⟨a1, by omega, a3, a4, fun q hq => h5 q (by rw [a5]; exact List.mem_append_right _ hq), ?_, a7⟩
  have e : zop O = zop pre + zop (zdown (zlev t w) m O nd D).2.2 := by rw [← zop_app, ← a5]
  rw [e, zop_0 pre, Nat.zero_add]
  intro q hq
  have hz : zwk q.1 := h5 q (by rw [a5]; exact List.mem_append_left _ hq)
  exact (zlev_1 (t := t) (w := w) hz).mp (Nat.le_trans hm (a6 q hq))
/-- after a sum's operators went, an open bracket is at the top, or nothing -/
theorem zdown_1 (h3 : D.length = zbn O + 1) (h4 : D.length ≤ nd.length) (h5 : ∀ q ∈ O, zwk q.1) :
    (zop O = 0 → (zdown (zlev t w) 1 O nd D).2.2 = []) ∧ (0 < zop O → ∃ p O', (zdown (zlev t w) 1 O nd D).2.2 = (22, p) :: O') := by
  obtain ⟨a1, a2, a3, a4, a5, a6, a7⟩ := zinv_down (t := t) (w := w) 1 (Nat.le_refl _) h3 h4 h5
  cases hO : (zdown (zlev t w) 1 O nd D).2.2 with
  | nil => rw [hO] at a6; exact ⟨fun _ => rfl, fun h => by rw [← a6] at h; exact absurd h (Nat.lt_irrefl 0)⟩
  | cons q O' =>
    have h1 := a7 q O' hO
    have hz : zwk q.1 := a5 q (by rw [hO]; simp)
    have h22 : q.1 = 22 := by
      rcases Decidable.em (q.1 = 22) with h | h
      · exact h
      · have := (zlev_1 (t := t) (w := w) hz).mpr h; omega
    rw [hO] at a6
    rw [show zop (q :: O') = zop O' + (if q.1 = 22 then 1 else 0) from rfl, if_pos h22] at a6
    exact ⟨fun h => by omega, fun _ => ⟨q.2, O', by rw [← h22]⟩⟩
end PI
theorem zsy_cases {st d l p o k : Nat} {s : Nat × Nat × Nat × Nat × Nat} (h : zsy (st, d, l, p, o) k = some s) :
    ((k = 1 ∧ st ≠ 3 ∨ k = 2) ∧ s = (3, d, l, p, o)) ∨ (k = 22 ∧ s = (0, d + 1, l, p, o)) ∨ ((3 ≤ k ∧ k ≤ 6) ∧ s = (2, d, l, 0, o)) ∨ (k = 24 ∧ st = 2 ∧ p < 3 ∧ s = (2, d, l, p + 1, o)) ∨ (k = 8 ∧ st = 0 ∧ s = (1, d, l, p, o))
    ∨ ((7 ≤ k ∧ k ≤ 11) ∧ st = 3 ∧ s = (1, d, l, p, o)) ∨ (k = 23 ∧ st = 3 ∧ 0 < d ∧ s = (3, d - 1, l, p, o)) ∨ (k = 21 ∧ st = 3 ∧ d = 0 ∧ o = 1 ∧ s = (0, 0, l, p, 0)) ∨ ((14 ≤ k ∧ k ≤ 20) ∧ st = 3 ∧ d = 0 ∧ o ≠ 1 ∧ l < 4 ∧ s = (0, 0, l + 1, p, if k = 20 then 1 else 0)) := by
  unfold zsy zsyF zsyP at h
  dsimp only at h
  by_cases h1 : st = 3 ∧ ¬ (2 ≤ k ∧ k ≤ 6 ∨ k = 22)
  · rw [if_pos h1] at h
    obtain ⟨h1, h2⟩ := h1
    split at h
    · rename_i h3; cases h; exact Or.inr (Or.inr (Or.inr (Or.inr (Or.inr (Or.inl ⟨h3, h1, rfl⟩)))))
    · split at h
      · rename_i h3 h4; split at h
        · rename_i h5; cases h; exact Or.inr (Or.inr (Or.inr (Or.inr (Or.inr (Or.inr (Or.inl ⟨h5, h1, h4, rfl⟩))))))
        · cases h
      · rename_i h3 h4
        split at h
        · rename_i h5; split at h
          · rename_i h6; cases h; exact Or.inr (Or.inr (Or.inr (Or.inr (Or.inr (Or.inr (Or.inr (Or.inl ⟨h6, h1, by omega, h5, rfl⟩)))))))
          · cases h
        · rename_i h5; split at h
          · rename_i h6; cases h; exact Or.inr (Or.inr (Or.inr (Or.inr (Or.inr (Or.inr (Or.inr (Or.inr ⟨⟨h6.1, h6.2.1⟩, h1, by omega, h5, h6.2.2, rfl⟩)))))))
          · cases h
  · rw [if_neg h1] at h
    split at h
    · rename_i h3; cases h
      refine Or.inl ⟨?_, rfl⟩
      rcases h3 with h3 | h3
      · exact Or.inl ⟨h3, fun h4 => h1 ⟨h4, by omega⟩⟩
      · exact Or.inr h3
    · split at h
      · rename_i h3 h4; cases h; exact Or.inr (Or.inl ⟨h4, rfl⟩)
      · split at h
        · rename_i h5; cases h; exact Or.inr (Or.inr (Or.inl ⟨h5, rfl⟩))
        · split at h
          · rename_i h6; cases h; exact Or.inr (Or.inr (Or.inr (Or.inl ⟨h6.1, h6.2.1, h6.2.2, rfl⟩)))
          · split at h
            · rename_i h7; cases h; exact Or.inr (Or.inr (Or.inr (Or.inr (Or.inl ⟨h7.1, h7.2, rfl⟩))))
            · cases h
section PI
variable {t w : Bool} {σ σ' : Nat × Nat × Nat × Nat × Nat} {i k d : Nat} {nd : List (Nat × Nat × Nat × Nat)} {D : List Nat} {O S : List (Nat × Nat)} {j : Nat}
theorem zjux_inv (h : zinv σ i nd D O S) (hk : σ.1 ≠ 3 ∨ 1 ≤ k ∧ k ≤ 6 ∨ k = 22) :
    (zjux t w (decide (σ.1 = 3)) k nd D O).1.length + (zjux t w (decide (σ.1 = 3)) k nd D O).2.2.length ≤ 2 * i + 1 ∧ (zjux t w (decide (σ.1 = 3)) k nd D O).2.1.length = zbn (zjux t w (decide (σ.1 = 3)) k nd D O).2.2 ∧
    (zjux t w (decide (σ.1 = 3)) k nd D O).2.1.length ≤ (zjux t w (decide (σ.1 = 3)) k nd D O).1.length ∧ (zjux t w (decide (σ.1 = 3)) k nd D O).2.1.length ≤ i ∧ (∀ q ∈ (zjux t w (decide (σ.1 = 3)) k nd D O).2.2, zwk q.1) ∧ zop (zjux t w (decide (σ.1 = 3)) k nd D O).2.2 = σ.2.1 := by
  obtain ⟨g1, g2, g3, g4, g5, g6, g7, g8, g9⟩ := h
  unfold zjux
  by_cases h3 : σ.1 = 3
  · have hk := hk.resolve_left (fun h => h h3)
    rw [if_pos h3] at g2
    rw [if_pos ⟨decide_eq_true h3, hk⟩]
    obtain ⟨a1, a2, a3, a4, a5, a6, a7⟩ := zinv_down (t := t) (w := w) 4 (by omega) g2 g3 g5
    dsimp only
    refine ⟨by rw [List.length_cons]; omega, ?_, a3, by omega, ?_, ?_⟩
    · rw [show zbn ((12, 0) :: (zdown (zlev t w) 4 O nd D).2.2) = zbn (zdown (zlev t w) 4 O nd D).2.2 + 1 from rfl]; exact a2
    · intro q hq
      rcases List.mem_cons.mp hq with rfl | h
      · exact Or.inl ⟨by decide, by decide⟩
      · exact a5 q h
    · rw [show zop ((12, 0) :: (zdown (zlev t w) 4 O nd D).2.2) = zop (zdown (zlev t w) 4 O nd D).2.2 from rfl]; omega
  · rw [if_neg h3] at g2
    rw [if_neg (by rintro ⟨h, -⟩; exact h3 (of_decide_eq_true h))]
    exact ⟨show nd.length + O.length ≤ 2 * i + 1 by omega, g2, g3, g4, g5, g6⟩
theorem zjux_no (h : ¬ (1 ≤ k ∧ k ≤ 6 ∨ k = 22)) (af : Bool) : zjux t w af k nd D O = (nd, D, O) := by
  unfold zjux; rw [if_neg (fun h' => h h'.2)]
theorem zinv_step (h : zinv σ i nd D O S) (hz : zsy σ k = some σ') (hk : k < 25) :
    zinv σ' (i + 1) (ztk t w (decide (σ.1 = 3)) k d nd D O S j).1 (ztk t w (decide (σ.1 = 3)) k d nd D O S j).2.1 (ztk t w (decide (σ.1 = 3)) k d nd D O S j).2.2.1 (ztk t w (decide (σ.1 = 3)) k d nd D O S j).2.2.2.1 := by
  have hok := (zsy_ok h.2.2.2.2.2.2.2.2 hk hz).1
  have hj := zjux_inv (t := t) (w := w) (k := k) h
  obtain ⟨g1, g2, g3, g4, g5, g6, g7, g8, g9⟩ := h
  obtain ⟨st, dp, l, p, o⟩ := σ
  dsimp only at g2 g6 g7 g8 hj ⊢
  unfold ztk
  rcases zsy_cases hz with ⟨h1, rfl⟩ | ⟨h1, rfl⟩ | ⟨h1, rfl⟩ | ⟨h1, h2, h3, rfl⟩ | ⟨h1, h2, rfl⟩ | ⟨h1, h2, rfl⟩ | ⟨h1, h2, h3, rfl⟩ | ⟨h1, h2, h3, h4, rfl⟩ | ⟨h1, h2, h3, h4, h5, rfl⟩
  · obtain ⟨j1, j2, j3, j4, j5, j6⟩ := hj (by omega)
    generalize zjux t w (decide (st = 3)) k nd D O = r at *
    unfold ztk0
    rw [if_pos (by omega)]
    dsimp only
    refine ⟨?_, ?_, ?_, ?_, j5, j6, ?_, g8, hok⟩
    · rw [List.length_append]; simp only [List.length_cons, List.length_nil]; omega
    · rw [List.length_cons, if_pos rfl]; omega
    · rw [List.length_append]; simp only [List.length_cons, List.length_nil]; omega
    · rw [List.length_cons]; omega
    · intro h; cases h
  · obtain ⟨j1, j2, j3, j4, j5, j6⟩ := hj (by omega)
    generalize zjux t w (decide (st = 3)) k nd D O = r at *
    unfold ztk0
    rw [if_neg (by omega), if_pos (by omega)]
    dsimp only
    refine ⟨?_, ?_, j3, by omega, ?_, ?_, ?_, g8, hok⟩
    · rw [List.length_cons]; omega
    · rw [if_neg (by omega), h1]; exact j2
    · intro q hq
      rcases List.mem_cons.mp hq with rfl | h
      · exact Or.inr h1
      · exact j5 q h
    · rw [show zop ((k, 0) :: r.2.2) = zop r.2.2 + (if k = 22 then 1 else 0) from rfl, if_pos h1, j6]
    · intro h; cases h
  · obtain ⟨j1, j2, j3, j4, j5, j6⟩ := hj (by omega)
    generalize zjux t w (decide (st = 3)) k nd D O = r at *
    unfold ztk0
    rw [if_neg (by omega), if_pos (by omega)]
    dsimp only
    refine ⟨?_, ?_, j3, by omega, ?_, ?_, ?_, g8, hok⟩
    · rw [List.length_cons]; omega
    · rw [if_neg (by omega), show zbn ((k, 0) :: r.2.2) = zbn r.2.2 + zbb k from rfl, show zbb k = 0 by unfold zbb; rw [if_neg (by omega)]]; exact j2
    · intro q hq
      rcases List.mem_cons.mp hq with rfl | h
      · exact Or.inl ⟨h1.1, by dsimp only; omega⟩
      · exact j5 q h
    · rw [show zop ((k, 0) :: r.2.2) = zop r.2.2 + (if k = 22 then 1 else 0) from rfl, if_neg (by omega), j6]; rfl
    · intro _; exact ⟨k, r.2.2, rfl, h1.1, h1.2⟩
  · rw [zjux_no (by omega)]
    unfold ztk0
    rw [if_neg (by omega), if_neg (by omega), if_pos h1]
    dsimp only
    obtain ⟨k', O', e, e1, e2⟩ := g7 h2
    subst e
    rw [if_neg (by omega)] at g2
    refine ⟨?_, ?_, g3, by omega, ?_, ?_, ?_, g8, hok⟩
    · simp only [zprime, List.length_cons] at *; omega
    · rw [if_neg (by omega)]; exact g2
    · intro q hq
      rcases List.mem_cons.mp hq with rfl | h
      · exact g5 (k', p) (List.mem_cons_self ..)
      · exact g5 q (List.mem_cons_of_mem _ h)
    · exact g6
    · intro _; exact ⟨k', O', rfl, e1, e2⟩
  · rw [zjux_no (by omega)]
    unfold ztk0
    rw [if_neg (by omega), if_neg (by omega), if_neg (by omega), if_pos ⟨h1, by rw [h2]; rfl⟩]
    dsimp only
    rw [if_neg (by omega)] at g2
    refine ⟨by rw [List.length_cons]; omega, ?_, g3, by omega, ?_, ?_, ?_, g8, hok⟩
    · rw [if_neg (by omega)]; exact g2
    · intro q hq
      rcases List.mem_cons.mp hq with rfl | h
      · exact Or.inl ⟨by decide, by decide⟩
      · exact g5 q h
    · exact g6
    · intro h; cases h
  · rw [zjux_no (by omega)]
    unfold ztk0
    have hd : decide (st = 3) = true := decide_eq_true h2
    rw [if_neg (by omega), if_neg (by omega), if_neg (by omega), if_neg (by rw [hd]; intro h; cases h.2), if_pos h1]
    dsimp only
    rw [if_pos h2] at g2
    have hc : 1 ≤ zcom k := by unfold zcom; repeat' split
                               all_goals omega
    obtain ⟨a1, a2, a3, a4, a5, a6, a7⟩ := zinv_down (t := t) (w := w) (zcom k) hc g2 g3 g5
    refine ⟨?_, ?_, a3, by omega, ?_, ?_, ?_, g8, hok⟩
    · rw [List.length_cons]; omega
    · rw [if_neg (by omega), show zbn ((k, 0) :: (zdown (zlev t w) (zcom k) O nd D).2.2) = zbn (zdown (zlev t w) (zcom k) O nd D).2.2 + zbb k from rfl, show zbb k = 1 by unfold zbb; rw [if_pos (by omega)]]; exact a2
    · intro q hq
      rcases List.mem_cons.mp hq with rfl | h
      · exact Or.inl ⟨by dsimp only; omega, by dsimp only; omega⟩
      · exact a5 q h
    · rw [show zop ((k, 0) :: (zdown (zlev t w) (zcom k) O nd D).2.2) = zop (zdown (zlev t w) (zcom k) O nd D).2.2 + (if k = 22 then 1 else 0) from rfl, if_neg (by omega)]; dsimp only; omega
    · intro h; cases h
  · rw [zjux_no (by omega)]
    unfold ztk0
    rw [if_neg (by omega), if_neg (by omega), if_neg (by omega), if_neg (by omega), if_neg (by omega), if_pos h1]
    dsimp only
    rw [if_pos h2] at g2
    obtain ⟨a1, a2, a3, a4, a5, a6, a7⟩ := zinv_down (t := t) (w := w) 1 (by omega) g2 g3 g5
    obtain ⟨q, O', e⟩ := (zdown_1 (t := t) (w := w) g2 g3 g5).2 (by omega)
    rw [e] at a1 a2 a5 a6 ⊢
    rw [List.length_cons] at a1
    dsimp only [List.drop]
    rw [show zbn ((22, q) :: O') = zbn O' from rfl] at a2
    rw [show zop ((22, q) :: O') = zop O' + 1 from rfl] at a6
    refine ⟨by omega, ?_, a3, by omega, fun q hq => a5 q (List.mem_cons_of_mem _ hq), by dsimp only; omega, ?_, g8, hok⟩
    · rw [if_pos rfl]; exact a2
    · intro h; cases h
  · rw [zjux_no (by omega)]
    unfold ztk0
    rw [if_neg (by omega), if_neg (by omega), if_neg (by omega), if_neg (by omega), if_neg (by omega), if_neg (by omega)]
    dsimp only
    rw [if_pos h2] at g2
    obtain ⟨a1, a2, a3, a4, a5, a6, a7⟩ := zinv_down (t := t) (w := w) 1 (by omega) g2 g3 g5
    have e := (zdown_1 (t := t) (w := w) g2 g3 g5).1 (by omega)
    rw [e] at a1 a2 a5 a6 ⊢
    refine ⟨by omega, ?_, by rw [List.length_drop]; omega, by rw [List.length_drop]; omega, by simp, rfl, ?_, ?_, hok⟩
    · rw [if_neg (by omega), List.length_drop, a2]; rfl
    · intro h; cases h
    · rw [List.length_append]; simp only [List.length_cons, List.length_nil]; omega
  · have hx1 : (if k = 20 then 1 else 0 : Nat) ≤ 1 := by split <;> omega
    generalize (if k = 20 then 1 else 0 : Nat) = x at *
    rw [zjux_no (by omega)]
    unfold ztk0
    rw [if_neg (by omega), if_neg (by omega), if_neg (by omega), if_neg (by omega), if_neg (by omega), if_neg (by omega)]
    dsimp only
    rw [if_pos h2] at g2
    obtain ⟨a1, a2, a3, a4, a5, a6, a7⟩ := zinv_down (t := t) (w := w) 1 (by omega) g2 g3 g5
    have e := (zdown_1 (t := t) (w := w) g2 g3 g5).1 (by omega)
    rw [e] at a1 a2 a5 a6 ⊢
    refine ⟨by omega, ?_, by rw [List.length_drop]; omega, by rw [List.length_drop]; omega, by simp, rfl, ?_, ?_, hok⟩
    · rw [if_neg (by omega), List.length_drop, a2]; rfl
    · intro h; cases h
    · rw [List.length_append]; simp only [List.length_cons, List.length_nil]; omega
end PI
/-! The class's builder takes a token. -/
/-- the whole builder with its tree -/
def zcB (af : Bool) (nd : List (Nat × Nat × Nat × Nat)) (D : List Nat) (O S : List (Nat × Nat)) (j : Nat) (r : Int32 × Int32 × Int32 × (Nat → Int32) × Int32 × (Nat → Int32) × Int32 × (Nat → Int32) × Int32 × Int32 × (Nat → Int32) × (Nat → Int32) × (Nat → Int32) × (Nat → Int32) × (Nat → Int32) × (Nat → Int32)) : Prop :=
  r.1 = zb2 af ∧ r.2.1 = nI j ∧ zcb r.2.2.1 r.2.2.2.1 r.2.2.2.2.1 r.2.2.2.2.2.1 r.2.2.2.2.2.2.1 r.2.2.2.2.2.2.2.1 r.2.2.2.2.2.2.2.2.1 r.2.2.2.2.2.2.2.2.2.2.1 r.2.2.2.2.2.2.2.2.2.2.2.1 r.2.2.2.2.2.2.2.2.2.2.2.2.1 r.2.2.2.2.2.2.2.2.2.2.2.2.2.1 nd D O ∧
  r.2.2.2.2.2.2.2.2.2.1 = nI S.length ∧ zrw r.2.2.2.2.2.2.2.2.2.2.2.2.2.2.1 (fun q => nI q.2) S ∧ zrw r.2.2.2.2.2.2.2.2.2.2.2.2.2.2.2 (fun q => nI q.1) S
section Z0
variable {t w af : Bool} {k d : Nat} {nd : List (Nat × Nat × Nat × Nat)} {D : List Nat} {O S : List (Nat × Nat)} {j : Nat}
theorem z0_a (h : k = 1 ∨ k = 2) : ztk0 t w af k d nd D O S j = (nd ++ [(k, d, 0, 0)], nd.length :: D, O, S, j) := by unfold ztk0; rw [if_pos h]
theorem z0_b (h : 3 ≤ k ∧ k ≤ 6 ∨ k = 22) : ztk0 t w af k d nd D O S j = (nd, D, (k, 0) :: O, S, j) := by unfold ztk0; rw [if_neg (by omega), if_pos h]
theorem z0_c (h : k = 24) : ztk0 t w af k d nd D O S j = (nd, D, zprime O, S, j) := by unfold ztk0; rw [if_neg (by omega), if_neg (by omega), if_pos h]
theorem z0_d (h : k = 8) (hf : af = false) : ztk0 t w af k d nd D O S j = (nd, D, (13, 0) :: O, S, j) := by unfold ztk0; rw [if_neg (by omega), if_neg (by omega), if_neg (by omega), if_pos ⟨h, hf⟩]
theorem z0_e (h : 7 ≤ k ∧ k ≤ 11) (hf : af = true) : ztk0 t w af k d nd D O S j = ((zdown (zlev t w) (zcom k) O nd D).1, (zdown (zlev t w) (zcom k) O nd D).2.1, (k, 0) :: (zdown (zlev t w) (zcom k) O nd D).2.2, S, j) := by
  unfold ztk0; rw [if_neg (by omega), if_neg (by omega), if_neg (by omega), if_neg (by rw [hf]; intro h; cases h.2), if_pos h]
theorem z0_f (h : k = 23) : ztk0 t w af k d nd D O S j = ((zdown (zlev t w) 1 O nd D).1, (zdown (zlev t w) 1 O nd D).2.1, (zdown (zlev t w) 1 O nd D).2.2.drop 1, S, j) := by
  unfold ztk0; rw [if_neg (by omega), if_neg (by omega), if_neg (by omega), if_neg (by omega), if_neg (by omega), if_pos h]
theorem z0_g (h : 14 ≤ k ∧ k ≤ 21) : ztk0 t w af k d nd D O S j = ((zdown (zlev t w) 1 O nd D).1, (zdown (zlev t w) 1 O nd D).2.1.drop 1, (zdown (zlev t w) 1 O nd D).2.2, S ++ [(j, (zdown (zlev t w) 1 O nd D).2.1.getD 0 0)], k) := by
  unfold ztk0; rw [if_neg (by omega), if_neg (by omega), if_neg (by omega), if_neg (by omega), if_neg (by omega), if_neg (by omega)]
end Z0
section CT
variable {t w : Bool} {σ σ' : Nat × Nat × Nat × Nat × Nat} {i k d : Nat} {nd : List (Nat × Nat × Nat × Nat)} {D : List Nat} {O S : List (Nat × Nat)} {j : Nat}
variable {af ja Dc : Int32} {Di : Nat → Int32} {Oc : Int32} {Oi : Nat → Int32} {Pc : Int32} {Pi : Nat → Int32} {tc ts : Int32} {tk td tl tr to tj : Nat → Int32}
theorem sp_194 (hk : k < 25) (bt bw : Int32) (b : Bool) (hb : b = decide (k = 1 ∨ k = 2 ∨ k = 23)) (hj : ja = nI j) (h : zcb Dc Di Oc Oi Pc Pi tc tk td tl tr nd D O) (hs : ts = nI S.length) (h1 : zrw to (fun q => nI q.2) S) (h2 : zrw tj (fun q => nI q.1) S) :
    zwp (fn_Builder_take_b194 bt bw af ja Dc Di Oc Oi Pc Pi tc ts tk td tl tr to tj (nI k)) (zcB b nd D O S j) := by
  obtain ⟨e1, e2, -, -, -, -, e23, -⟩ := keq (k := k) (by omega)
  unfold fn_Builder_take_b194
  have hP : ∀ x : Int32, x = zb2 b → zwp (some (x, ja, Dc, Di, Oc, Oi, Pc, Pi, tc, ts, tk, td, tl, tr, to, tj)) (zcB b nd D O S j) := fun x hx => zwp_some ⟨hx, hj, h, hs, h1, h2⟩
  by_cases k1 : k = 1
  · exact zwp_t (e1.mpr k1) (hP 1 (by rw [hb, decide_eq_true (Or.inl k1)]; rfl))
  refine zwp_f (fun h => k1 (e1.mp h)) ?_
  by_cases k2 : k = 2
  · exact zwp_t (e2.mpr k2) (hP 1 (by rw [hb, decide_eq_true (Or.inr (Or.inl k2))]; rfl))
  refine zwp_f (fun h => k2 (e2.mp h)) ?_
  by_cases k3 : k = 23
  · exact zwp_t (e23.mpr k3) (hP 1 (by rw [hb, decide_eq_true (Or.inr (Or.inr k3))]; rfl))
  refine zwp_f (fun h => k3 (e23.mp h)) (hP 0 (by rw [hb, decide_eq_false (by omega)]; rfl))
theorem sp_putop (a : Nat × Nat) (h : zcb Dc Di Oc Oi Pc Pi tc tk td tl tr nd D O) (hl : O.length < 160) (x : Int32) (hx : x = nI a.1) (h0 : a.2 = 0) :
    zwp (fn_Builder_putOperator Oc Oi Pc Pi x) (fun r => zcb Dc Di r.1 r.2.1 r.2.2.1 r.2.2.2 tc tk td tl tr nd D (a :: O)) := by
  obtain ⟨h1, h2, h3, h4⟩ := h
  unfold fn_Builder_putOperator
  refine zwp_seq (sp_push (g := fun q : Nat × Nat => nI q.1) a (by omega) h2 hl hx) (fun r hr => ?_)
  refine zwp_seq (sp_push (g := fun q : Nat × Nat => nI q.2) a (by omega) h3 hl (by rw [h0]; rfl)) (fun s hs => zwp_some ⟨h1, hr, hs, h4⟩)
theorem sp_downw (m : Nat) (hm : m ≤ 6) (hm1 : 1 ≤ m) (h : zcb Dc Di Oc Oi Pc Pi tc tk td tl tr nd D O) (hl : nd.length + O.length ≤ 160) (hb : zbn O < D.length) (hw : ∀ q ∈ O, zwk q.1) :
    zwp (fn_Builder_applyDownTo (zb2 t) (zb2 w) Dc Di Oc Oi Pc Pi tc tk td tl tr (nI m)) (fun s => zcb s.1 s.2.1 s.2.2.1 Oi s.2.2.2.1 Pi s.2.2.2.2.1 s.2.2.2.2.2.1 s.2.2.2.2.2.2.1 s.2.2.2.2.2.2.2.1 s.2.2.2.2.2.2.2.2 (zdown (zlev t w) m O nd D).1 (zdown (zlev t w) m O nd D).2.1 (zdown (zlev t w) m O nd D).2.2) := by
  unfold fn_Builder_applyDownTo fn_IntStack_size
  have e := h.2.1.1
  have := sp_down (t := t) (w := w) m hm hm1 zFU O nd D Dc Di Oc Pc tc tk td tl tr (Nat.lt_of_le_of_lt (Nat.le_trans (Nat.le_add_left _ _) hl) (by decide)) h hl hb (fun q hq => zwk_r (hw q hq))
  rw [← e] at this
  exact this
theorem sp_endsum (nj : Int32) (a : Nat) (hj : ja = nI j) (h : zcb Dc Di Oc Oi Pc Pi tc tk td tl tr nd (a :: D) O) (hs : ts = nI S.length) (hl : S.length < 9) (h1 : zrw to (fun q => nI q.2) S) (h2 : zrw tj (fun q => nI q.1) S) :
    zwp (fn_Builder_endSum ja Dc Di ts to tj nj) (fun r => r.1 = nj ∧ zcb r.2.1 Di Oc Oi Pc Pi tc tk td tl tr nd D O ∧ r.2.2.1 = nI (S ++ [(j, a)]).length ∧ zrw r.2.2.2.1 (fun q => nI q.2) (S ++ [(j, a)]) ∧ zrw r.2.2.2.2 (fun q => nI q.1) (S ++ [(j, a)])) := by
  obtain ⟨g1, g2, g3, g4⟩ := h
  unfold fn_Builder_endSum
  rw [sp_pop (by omega) g1, Option.bind_some]
  unfold fn_Tree_addSum
  rw [hs]
  refine zwp_seq (Q := fun r => r.1 = nI (S ++ [(j, a)]).length ∧ zrw r.2.1 (fun q => nI q.2) (S ++ [(j, a)]) ∧ zrw r.2.2 (fun q => nI q.1) (S ++ [(j, a)])) ?_ (fun r hr => zwp_some ⟨rfl, ⟨zstk_tail g1, g2, g3, g4⟩, hr⟩)
  refine zwp_f (nI_ge (b := 9) hl (by omega)) (zwp_f (nI_in hl (by omega)) (zwp_f (nI_in hl (by omega)) (zwp_some ⟨?_, ?_, ?_⟩)))
  · show nI S.length + 1 = _; rw [nI_add1, List.length_append]; rfl
  · show zrw (upd to (nI S.length).toNatClampNeg _) _ _; rw [nI_clamp (by omega)]; exact zrw_push h1 rfl
  · show zrw (upd tj (nI S.length).toNatClampNeg _) _ _; rw [nI_clamp (by omega)]; exact zrw_push h2 hj
theorem zcons1 {D : List Nat} (h : 0 < D.length) : D = D.getD 0 0 :: D.drop 1 := by
  cases D with
  | nil => simp at h
  | cons a D => rfl
theorem sp_25 (hi : i < 80) (hz : zsy σ k = some σ') (hk : k < 25) (hs2 : S.length + σ.2.2.2.2 ≤ 2 * σ.2.2.1) (hok : zsok σ)
    (q1 : nd.length + O.length ≤ 2 * i + 1) (q2 : σ.1 ≠ 3 ∨ 1 ≤ k ∧ k ≤ 6 ∨ k = 22 → D.length = zbn O) (q2' : σ.1 = 3 → ¬ (1 ≤ k ∧ k ≤ 6 ∨ k = 22) → D.length = zbn O + 1) (q3 : D.length ≤ nd.length) (q5 : ∀ q ∈ O, zwk q.1) (q6 : zop O = σ.2.1) (q7 : σ.1 = 2 → ∃ k O', O = (k, σ.2.2.2.1) :: O' ∧ 3 ≤ k ∧ k ≤ 6)
    (hj : ja = nI j) (h : zcb Dc Di Oc Oi Pc Pi tc tk td tl tr nd D O) (hs : ts = nI S.length) (h1 : zrw to (fun q => nI q.2) S) (h2 : zrw tj (fun q => nI q.1) S) :
    zwp (fn_Builder_take_b25 (zb2 t) (zb2 w) (zb2 (decide (σ.1 = 3))) ja Dc Di Oc Oi Pc Pi tc ts tk td tl tr to tj (nI k) (nI d))
      (zcB (decide (σ'.1 = 3)) (ztk0 t w (decide (σ.1 = 3)) k d nd D O S j).1 (ztk0 t w (decide (σ.1 = 3)) k d nd D O S j).2.1 (ztk0 t w (decide (σ.1 = 3)) k d nd D O S j).2.2.1 (ztk0 t w (decide (σ.1 = 3)) k d nd D O S j).2.2.2.1 (ztk0 t w (decide (σ.1 = 3)) k d nd D O S j).2.2.2.2) := by
  obtain ⟨e1, e2, -, -, e8, e22, e23, e24, -⟩ := keq (k := k) (by omega)
  obtain ⟨f1, f2, -, -, -, f6, -⟩ := kfn k hk
  obtain ⟨st, dp, l, p, o⟩ := σ
  dsimp only at *
  have b35 : (k = 1 ∨ k = 2) → zwp (fn_Builder_take_b35 (zb2 t) (zb2 w) (zb2 (decide (st = 3))) ja Dc Di Oc Oi Pc Pi tc ts tk td tl tr to tj (nI k) (nI d)) (zcB true (nd ++ [(k, d, 0, 0)]) (nd.length :: D) O S j) := by
    intro h12
    unfold fn_Builder_take_b35
    refine zwp_seq (sp_node h.2.2.2 (by omega) (k, d, 0, 0) rfl rfl (by unfold zgl; rw [if_pos (by show k ≤ 2; omega)]) (by unfold zgr; rw [if_neg (by show ¬ (7 ≤ k ∧ k ≤ 12); omega)])) (fun r hr => ?_)
    refine zwp_seq (sp_push (g := nI) nd.length (by omega) h.1 (by omega) hr.1) (fun s hs' => ?_)
    exact sp_194 hk _ _ true (by rw [decide_eq_true (by omega)]) hj ⟨hs', h.2.1, h.2.2.1, hr.2⟩ hs h1 h2
  have b69 : (3 ≤ k ∧ k ≤ 6 ∨ k = 22) → zwp (fn_Builder_take_b69 (zb2 t) (zb2 w) (zb2 (decide (st = 3))) ja Dc Di Oc Oi Pc Pi tc ts tk td tl tr to tj (nI k)) (zcB false nd D ((k, 0) :: O) S j) := by
    intro h12
    unfold fn_Builder_take_b69
    refine zwp_seq (sp_putop (k, 0) h (by omega) (nI k) rfl rfl) (fun s hs' => ?_)
    exact sp_194 hk _ _ false (by rw [decide_eq_false (by omega)]) hj hs' hs h1 h2
  unfold fn_Builder_take_b25
  rcases zsy_cases hz with ⟨h3, rfl⟩ | ⟨h3, rfl⟩ | ⟨h3, rfl⟩ | ⟨h3, h4, h5, rfl⟩ | ⟨h3, h4, rfl⟩ | ⟨h3, h4, rfl⟩ | ⟨h3, h4, h5, rfl⟩ | ⟨h3, h4, h5, h6, rfl⟩ | ⟨h3, h4, h5, h6, h7, rfl⟩
  · rw [z0_a (by omega)]
    by_cases k1 : k = 1
    · exact zwp_t (e1.mpr k1) (b35 (Or.inl k1))
    · exact zwp_f (fun h => k1 (e1.mp h)) (zwp_t (e2.mpr (by omega)) (b35 (by omega)))
  · rw [z0_b (by omega)]
    refine zwp_f (fun h => by have := e1.mp h; omega) (zwp_f (fun h => by have := e2.mp h; omega) ?_)
    exact zwp_t (by rw [f1, if_neg (by omega)]) (zwp_t (e22.mpr h3) (b69 (by omega)))
  · rw [z0_b (by omega)]
    refine zwp_f (fun h => by have := e1.mp h; omega) (zwp_f (fun h => by have := e2.mp h; omega) ?_)
    exact zwp_f (by rw [f1, if_pos h3]; decide) (b69 (by omega))
  · rw [z0_c h3]
    refine zwp_f (fun h => by have := e1.mp h; omega) (zwp_f (fun h => by have := e2.mp h; omega) ?_)
    refine zwp_t (by rw [f1, if_neg (by omega)]) (zwp_f (fun h => by have := e22.mp h; omega) (zwp_t (e24.mpr h3) ?_))
    obtain ⟨k', O', e, -, -⟩ := q7 h4
    subst e
    rw [sp_pop (by omega) h.2.2.1, Option.bind_some]
    dsimp only
    have hl := h.2.2.1.2.1
    simp only [List.length_cons] at hl
    rw [nI_add1]
    refine zwp_seq (sp_push (g := fun q : Nat × Nat => nI q.2) (k', p + 1) (by omega) (zstk_tail h.2.2.1) (by omega) rfl) (fun s hs' => ?_)
    refine sp_194 hk _ _ false (by rw [decide_eq_false (by omega)]) hj ⟨h.1, ?_, hs', h.2.2.2⟩ hs h1 h2
    exact ⟨h.2.1.1, h.2.1.2.1, h.2.1.2.2.1, h.2.1.2.2.2⟩
  · have hd : decide (st = 3) = false := decide_eq_false (by omega)
    rw [z0_d h3 hd]
    refine zwp_f (fun h => by have := e1.mp h; omega) (zwp_f (fun h => by have := e2.mp h; omega) ?_)
    refine zwp_t (by rw [f1, if_neg (by omega)]) (zwp_f (fun h => by have := e22.mp h; omega) (zwp_f (fun h => by have := e24.mp h; omega) (zwp_t (e8.mpr h3) (zwp_t (by rw [hd]; rfl) ?_))))
    refine zwp_seq (sp_putop (13, 0) h (by omega) 13 rfl rfl) (fun s hs' => ?_)
    exact sp_194 hk _ _ false (by rw [decide_eq_false (by omega)]) hj hs' hs h1 h2
  · have hd : decide (st = 3) = true := decide_eq_true h4
    rw [z0_e h3 hd]
    have b124 : zwp (fn_Builder_take_b124 (zb2 t) (zb2 w) (zb2 (decide (st = 3))) ja Dc Di Oc Oi Pc Pi tc ts tk td tl tr to tj (nI k)) (zcB false (zdown (zlev t w) (zcom k) O nd D).1 (zdown (zlev t w) (zcom k) O nd D).2.1 ((k, 0) :: (zdown (zlev t w) (zcom k) O nd D).2.2) S j) := by
      unfold fn_Builder_take_b124
      refine zwp_f (by rw [f2, if_pos h3]; decide) ?_
      rw [zcom_ok k hk]
      have hc : 1 ≤ zcom k ∧ zcom k ≤ 6 := by unfold zcom; repeat' split
                                              all_goals omega
      have hD := q2' h4 (by omega)
      obtain ⟨a1, -⟩ := zinv_down (t := t) (w := w) (zcom k) hc.1 hD q3 q5
      refine zwp_seq (sp_downw (zcom k) hc.2 hc.1 h (by omega) (by omega) q5) (fun s hs' => ?_)
      refine zwp_seq (sp_putop (k, 0) hs' (by have := hs'.2.2.2.2.1; have := hs'.2.1.2.1; omega) (nI k) rfl rfl) (fun u hu => ?_)
      exact sp_194 hk _ _ false (by rw [decide_eq_false (by omega)]) hj hu hs h1 h2
    refine zwp_f (fun h => by have := e1.mp h; omega) (zwp_f (fun h => by have := e2.mp h; omega) ?_)
    refine zwp_t (by rw [f1, if_neg (by omega)]) (zwp_f (fun h => by have := e22.mp h; omega) (zwp_f (fun h => by have := e24.mp h; omega) (zwp_ite (fun _ => zwp_f (by rw [hd]; decide) b124) (fun _ => b124))))
  · rw [z0_f h3]
    refine zwp_f (fun h => by have := e1.mp h; omega) (zwp_f (fun h => by have := e2.mp h; omega) ?_)
    refine zwp_t (by rw [f1, if_neg (by omega)]) (zwp_f (fun h => by have := e22.mp h; omega) (zwp_f (fun h => by have := e24.mp h; omega) (zwp_f (fun h => by have := e8.mp h; omega) ?_)))
    unfold fn_Builder_take_b124
    refine zwp_t (by rw [f2, if_neg (by omega)]) (zwp_t (e23.mpr h3) ?_)
    have hD := q2' h4 (by omega)
    obtain ⟨q, O', e⟩ := (zdown_1 (t := t) (w := w) hD q3 q5).2 (by omega)
    refine zwp_seq (sp_downw (t := t) (w := w) 1 (by omega) (by omega) h (by omega) (by omega) q5) (fun s hs' => ?_)
    rw [e] at hs' ⊢
    rw [sp_pop (by omega) hs'.2.1, Option.bind_some, sp_pop (by omega) hs'.2.2.1, Option.bind_some]
    exact sp_194 hk _ _ true (by rw [decide_eq_true (by omega)]) hj ⟨hs'.1, zstk_tail hs'.2.1, zstk_tail hs'.2.2.1, hs'.2.2.2⟩ hs h1 h2
  all_goals
    rw [z0_g (by omega : 14 ≤ k ∧ k ≤ 21)]
    refine zwp_f (fun h => by have := e1.mp h; omega) (zwp_f (fun h => by have := e2.mp h; omega) ?_)
    refine zwp_t (by rw [f1, if_neg (by omega)]) (zwp_f (fun h => by have := e22.mp h; omega) (zwp_f (fun h => by have := e24.mp h; omega) (zwp_f (fun h => by have := e8.mp h; omega) ?_)))
    unfold fn_Builder_take_b124
    refine zwp_t (by rw [f2, if_neg (by omega)]) (zwp_f (fun h => by have := e23.mp h; omega) ?_)
    refine zwp_f (by rw [f6, if_pos (by omega)]; decide) ?_
    have hD := q2' h4 (by omega)
    obtain ⟨a1, a2, -⟩ := zinv_down (t := t) (w := w) 1 (by omega) hD q3 q5
    refine zwp_seq (sp_downw (t := t) (w := w) 1 (by omega) (by omega) h (by omega) (by omega) q5) (fun s hs' => ?_)
    have hc := zcons1 (D := (zdown (zlev t w) 1 O nd D).2.1) (by omega)
    rw [hc] at hs'
    have hok2 := hok.2.1
    have hok3 := hok.2.2.2
    dsimp only at hok2 hok3
    refine zwp_seq (sp_endsum (nI k) _ hj hs' hs (by omega) h1 h2) (fun u hu => ?_)
    exact sp_194 hk _ _ false (by rw [decide_eq_false (by omega)]) hu.1 hu.2.1 hu.2.2.1 hu.2.2.2.1 hu.2.2.2.2
theorem sp_take (hi : i < 80) (hinv : zinv σ i nd D O S) (hz : zsy σ k = some σ') (hk : k < 25)
    (haf : af = zb2 (decide (σ.1 = 3))) (hj : ja = nI j) (h : zcb Dc Di Oc Oi Pc Pi tc tk td tl tr nd D O) (hs : ts = nI S.length) (h1 : zrw to (fun q => nI q.2) S) (h2 : zrw tj (fun q => nI q.1) S) :
    zwp (fn_Builder_take (zb2 t) (zb2 w) af ja Dc Di Oc Oi Pc Pi tc ts tk td tl tr to tj (nI k) (nI d))
      (zcB (decide (σ'.1 = 3)) (ztk t w (decide (σ.1 = 3)) k d nd D O S j).1 (ztk t w (decide (σ.1 = 3)) k d nd D O S j).2.1 (ztk t w (decide (σ.1 = 3)) k d nd D O S j).2.2.1 (ztk t w (decide (σ.1 = 3)) k d nd D O S j).2.2.2.1 (ztk t w (decide (σ.1 = 3)) k d nd D O S j).2.2.2.2) := by
  have hJ := zjux_inv (t := t) (w := w) (k := k) hinv
  obtain ⟨g1, g2, g3, g4, g5, g6, g7, g8, g9⟩ := hinv
  obtain ⟨-, -, -, -, -, -, f7⟩ := kfn k hk
  unfold fn_Builder_take ztk
  rw [haf]
  by_cases h3 : σ.1 = 3
  · rw [if_pos h3] at g2
    refine zwp_f (by rw [decide_eq_true h3]; decide) ?_
    by_cases hp : 1 ≤ k ∧ k ≤ 6 ∨ k = 22
    · refine zwp_f (by rw [f7, if_pos hp]; decide) ?_
      obtain ⟨j1, j2, j3, j4, j5, j6⟩ := hJ (Or.inr hp)
      unfold zjux at j1 j2 j3 j4 j5 j6 ⊢
      rw [if_pos ⟨decide_eq_true h3, hp⟩] at j1 j2 j3 j4 j5 j6 ⊢
      dsimp only at j1 j2 j3 j4 j5 j6 ⊢
      refine zwp_seq (sp_downw (t := t) (w := w) 4 (by omega) (by omega) h (by omega) (by omega) g5) (fun s hs' => ?_)
      refine zwp_seq (sp_putop (12, 0) hs' (by rw [List.length_cons] at j1; omega) 12 rfl rfl) (fun u hu => ?_)
      exact sp_25 hi hz hk g8 g9 j1 (fun _ => j2) (fun _ h => absurd hp h) j3 j5 j6 (fun h => absurd (h.symm.trans h3) (by decide)) hj hu hs h1 h2
    · refine zwp_t (by rw [f7, if_neg hp]) ?_
      rw [zjux_no hp]
      exact sp_25 hi hz hk g8 g9 (show nd.length + O.length ≤ 2 * i + 1 by omega) (fun h => by rcases h with h | h; (· exact absurd h3 h); exact absurd h hp) (fun _ _ => g2) g3 g5 g6 g7 hj h hs h1 h2
  · rw [if_neg h3] at g2
    refine zwp_t (by rw [decide_eq_false h3]; rfl) ?_
    have e : zjux t w (decide (σ.1 = 3)) k nd D O = (nd, D, O) := by
      unfold zjux; rw [if_neg (fun h' => h3 (of_decide_eq_true h'.1))]
    rw [e]
    exact sp_25 hi hz hk g8 g9 (show nd.length + O.length ≤ 2 * i + 1 by omega) (fun _ => g2) (fun h => absurd h h3) g3 g5 g6 g7 hj h hs h1 h2
end CT
/-! The class builds a tree. -/
abbrev zBt : Type := List (Nat × Nat × Nat × Nat) × List Nat × List (Nat × Nat) × List (Nat × Nat) × Nat
def zbgo (t w : Bool) : (Nat × Nat × Nat × Nat × Nat) → zBt → List (Nat × Nat × Nat) → zBt
  | _, b, [] => b
  | s, b, q :: l => match zsy s q.1 with
    | none => b
    | some s' => zbgo t w s' (ztk t w (decide (s.1 = 3)) q.1 q.2.1 b.1 b.2.1 b.2.2.1 b.2.2.2.1 b.2.2.2.2) l
/-- nodes and sums of a formula's tokens -/
def zbuild (t w : Bool) (l : List (Nat × Nat × Nat)) : List (Nat × Nat × Nat × Nat) × List (Nat × Nat) :=
  ((zdown (zlev t w) 1 (zbgo t w zs0 ([], [], [], [], 0) l).2.2.1 (zbgo t w zs0 ([], [], [], [], 0) l).1 (zbgo t w zs0 ([], [], [], [], 0) l).2.1).1,
   (zbgo t w zs0 ([], [], [], [], 0) l).2.2.2.1 ++ [((zbgo t w zs0 ([], [], [], [], 0) l).2.2.2.2, (zdown (zlev t w) 1 (zbgo t w zs0 ([], [], [], [], 0) l).2.2.1 (zbgo t w zs0 ([], [], [], [], 0) l).1 (zbgo t w zs0 ([], [], [], [], 0) l).2.1).2.1.getD 0 0)])
/-- a valid row of tokens -/
def zform (l : List (Nat × Nat × Nat)) : Prop := (∃ s, zgo zs0 l = some s ∧ zfin s) ∧ (∀ q ∈ l, zkok q) ∧ l.length ≤ 80
/-- what the class's tree holds -/
def zctree (tc ts : Int32) (tk td tl tr to tj : Nat → Int32) (nd : List (Nat × Nat × Nat × Nat)) (S : List (Nat × Nat)) : Prop :=
  zct tc tk td tl tr nd ∧ ts = nI S.length ∧ zrw to (fun q => nI q.2) S ∧ zrw tj (fun q => nI q.1) S
theorem zgo_step {s sf : Nat × Nat × Nat × Nat × Nat} {q : Nat × Nat × Nat} {l : List (Nat × Nat × Nat)} (h : zgo s (q :: l) = some sf) : ∃ s', zsy s q.1 = some s' ∧ zgo s' l = some sf := by
  unfold zgo at h
  split at h
  · cases h
  · rename_i s' h'; exact ⟨s', h', h⟩
theorem zinv_0 : zinv zs0 0 [] [] [] [] := ⟨by simp, rfl, Nat.le_refl _, Nat.le_refl _, by simp, rfl, fun h => (by cases h), by simp [zs0], by decide, by decide, by decide, by decide⟩
section CBu
variable {t w : Bool} {qc : Int32} {qk qs qd : Nat → Int32} {l : List (Nat × Nat × Nat)}
theorem sp_bloop (hq : zqs qc qk qs qd l) (hl : l.length ≤ 80) (hk : ∀ q ∈ l, zkok q) : ∀ (n : Nat) (rest : List (Nat × Nat × Nat)) (i : Nat) (σ sf : Nat × Nat × Nat × Nat × Nat) (b : zBt) (r : Int32 × Int32 × Int32 × (Nat → Int32) × Int32 × (Nat → Int32) × Int32 × (Nat → Int32) × Int32 × Int32 × (Nat → Int32) × (Nat → Int32) × (Nat → Int32) × (Nat → Int32) × (Nat → Int32) × (Nat → Int32)),
    l.drop i = rest → i ≤ l.length → rest.length < n → zinv σ i b.1 b.2.1 b.2.2.1 b.2.2.2.1 → zgo σ rest = some sf → zfin sf → zcB (decide (σ.1 = 3)) b.1 b.2.1 b.2.2.1 b.2.2.2.1 b.2.2.2.2 r →
    zwp (fn_Builder_build_L40 (zb2 t) (zb2 w) qc qk qd n r.1 r.2.1 r.2.2.1 r.2.2.2.1 r.2.2.2.2.1 r.2.2.2.2.2.1 r.2.2.2.2.2.2.1 r.2.2.2.2.2.2.2.1 r.2.2.2.2.2.2.2.2.1 r.2.2.2.2.2.2.2.2.2.1 r.2.2.2.2.2.2.2.2.2.2.1 r.2.2.2.2.2.2.2.2.2.2.2.1 r.2.2.2.2.2.2.2.2.2.2.2.2.1 r.2.2.2.2.2.2.2.2.2.2.2.2.2.1 r.2.2.2.2.2.2.2.2.2.2.2.2.2.2.1 r.2.2.2.2.2.2.2.2.2.2.2.2.2.2.2 (nI i))
      (fun r => zctree r.2.2.2.2.2.2.2.2.1 r.2.2.2.2.2.2.2.2.2.1 r.2.2.2.2.2.2.2.2.2.2.1 r.2.2.2.2.2.2.2.2.2.2.2.1 r.2.2.2.2.2.2.2.2.2.2.2.2.1 r.2.2.2.2.2.2.2.2.2.2.2.2.2.1 r.2.2.2.2.2.2.2.2.2.2.2.2.2.2.1 r.2.2.2.2.2.2.2.2.2.2.2.2.2.2.2
        (zdown (zlev t w) 1 (zbgo t w σ b rest).2.2.1 (zbgo t w σ b rest).1 (zbgo t w σ b rest).2.1).1
        ((zbgo t w σ b rest).2.2.2.1 ++ [((zbgo t w σ b rest).2.2.2.2, (zdown (zlev t w) 1 (zbgo t w σ b rest).2.2.1 (zbgo t w σ b rest).1 (zbgo t w σ b rest).2.1).2.1.getD 0 0)]))
  | 0, _, _, _, _, _, _, _, _, h, _, _, _, _ => absurd h (Nat.not_lt_zero _)
  | n + 1, rest, i, σ, sf, b, r, ht, hi, hn, hinv, hgo, hfin, hB => by
    obtain ⟨b1, b2, b3, b4, b5, b6⟩ := hB
    have hc := hq.1
    unfold fn_Builder_build_L40
    simp only [fn_Tokens_size]
    cases rest with
    | nil =>
      have h9 : l.length ≤ i := List.drop_eq_nil_iff.mp ht
      cases hgo
      refine zwp_t (by rw [hc]; exact nI_le h9 (by omega)) ?_
      obtain ⟨g1, g2, g3, g4, g5, g6, g7, g8, g9⟩ := hinv
      rw [if_pos hfin.1] at g2
      obtain ⟨a1, a2, -⟩ := zinv_down (t := t) (w := w) 1 (by omega) g2 g3 g5
      refine zwp_seq (sp_downw (t := t) (w := w) 1 (by omega) (by omega) b3 (by omega) (by omega) g5) (fun s hs' => ?_)
      have hc := zcons1 (D := (zdown (zlev t w) 1 b.2.2.1 b.1 b.2.1).2.1) (by omega)
      rw [hc] at hs'
      have h4 := g9.2.1
      refine zwp_seq (sp_endsum 0 _ b2 hs' b4 (by omega) b5 b6) (fun u hu => zwp_some ?_)
      exact ⟨hu.2.1.2.2.2, hu.2.2.1, hu.2.2.2.1, hu.2.2.2.2⟩
    | cons q rest =>
      have hlt : i < l.length := by
        rcases Nat.lt_or_ge i l.length with h1 | h1
        · exact h1
        · rw [List.drop_eq_nil_of_le h1] at ht; cases ht
      have hqi : l[i]? = some q := by
        have := congrArg (fun l => l[0]?) ht
        simpa [List.getElem?_drop] using this
      have hkq := hk q (List.mem_of_getElem? hqi)
      obtain ⟨s', hz, hgo'⟩ := zgo_step hgo
      refine zwp_f (by rw [hc]; exact nI_ge hlt (by omega)) ?_
      rw [sp_kind hq hl hqi, Option.bind_some, sp_detail hq hl hqi, Option.bind_some]
      refine zwp_seq (sp_take (by omega) hinv hz hkq.1 b1 b2 b3 b4 b5 b6) (fun u hu => ?_)
      rw [nI_add1]
      have hstep := zinv_step (t := t) (w := w) (d := q.2.1) (j := b.2.2.2.2) hinv hz hkq.1
      have := sp_bloop hq hl hk n rest (i + 1) s' sf _ u (by rw [← List.drop_drop, ht]; rfl) hlt (by simp at hn; omega) hstep hgo' hfin hu
      have e : zbgo t w σ b (q :: rest) = zbgo t w s' (ztk t w (decide (σ.1 = 3)) q.1 q.2.1 b.1 b.2.1 b.2.2.1 b.2.2.2.1 b.2.2.2.2) rest := by
        rw [zbgo, hz]
      rw [e]; exact this
theorem sp_build (hq : zqs qc qk qs qd l) (hf : zform l) (a b c : Int32) (d : Nat → Int32) (e : Int32) (f : Nat → Int32) (g : Int32) (h : Nat → Int32) (tc ts : Int32) (tk td tl tr to tj : Nat → Int32) :
    zwp (fn_Builder_build (zb2 t) (zb2 w) a b c d e f g h tc ts tk td tl tr to tj qc qk qd)
      (fun r => zctree r.2.2.2.2.2.2.2.2.1 r.2.2.2.2.2.2.2.2.2.1 r.2.2.2.2.2.2.2.2.2.2.1 r.2.2.2.2.2.2.2.2.2.2.2.1 r.2.2.2.2.2.2.2.2.2.2.2.2.1 r.2.2.2.2.2.2.2.2.2.2.2.2.2.1 r.2.2.2.2.2.2.2.2.2.2.2.2.2.2.1 r.2.2.2.2.2.2.2.2.2.2.2.2.2.2.2 (zbuild t w l).1 (zbuild t w l).2) := by
  obtain ⟨⟨sf, h1, h2⟩, h3, h4⟩ := hf
  unfold fn_Builder_build
  refine sp_bloop hq h4 h3 zFU l 0 zs0 sf ([], [], [], [], 0) (0, 0, fn_IntStack_clear c, d, fn_IntStack_clear e, f, fn_IntStack_clear g, h, (fn_Tree_clear tc ts).1, (fn_Tree_clear tc ts).2, tk, td, tl, tr, to, tj) rfl (Nat.zero_le _) (Nat.lt_of_le_of_lt h4 (by decide)) zinv_0 h1 h2 ?_
  exact ⟨rfl, rfl, ⟨zstk_nil, zstk_nil, zstk_nil, rfl, by decide, zrw_nil, zrw_nil, zrw_nil, zrw_nil⟩, rfl, zrw_nil, zrw_nil⟩
end CBu
/-! The reference's builder. -/
def zwt (k p : Nat) : Nat := if 3 ≤ k ∧ k ≤ 6 then (k - 3) + 4 * p else 0
def zrl (q : Nat × Nat × Nat × Nat) : Int32 := if 7 ≤ q.1 ∧ q.1 ≤ 12 then nI q.2.2.1 else -3
def zrr (q : Nat × Nat × Nat × Nat) : Int32 := if 7 ≤ q.1 ∧ q.1 ≤ 12 then nI q.2.2.2 else if q.1 ≤ 2 then -3 else nI q.2.2.1
def zrh (q : Nat × Nat × Nat × Nat) : Int32 := if q.1 ≤ 2 then nI q.2.1 else nI (zwt q.1 q.2.1)
/-- the reference's nodes -/
def zrt (mn : Int32) (ms ml mr mw : Nat → Int32) (nd : List (Nat × Nat × Nat × Nat)) : Prop :=
  mn = nI nd.length ∧ nd.length ≤ 160 ∧ zrw ms (fun q => nI (zka q.1)) nd ∧ zrw ml zrl nd ∧ zrw mr zrr nd ∧ zrw mw zrh nd
def zrb (mn od oo : Int32) (ms ml mr mw md mo mf : Nat → Int32) (nd : List (Nat × Nat × Nat × Nat)) (D : List Nat) (O : List (Nat × Nat)) : Prop :=
  zrt mn ms ml mr mw nd ∧ (od = nI D.length ∧ zst nI md D) ∧ oo = nI O.length ∧ zst (fun q => nI (zka q.1)) mo O ∧ zst (fun q => nI (zwt q.1 q.2)) mf O
theorem nI_in2 {c N : Nat} (h : c < N) (hN : N < 2 ^ 31) : ¬ (nI c < 0 ∨ N ≤ c) := by
  rintro (h1 | h1)
  · exact nI_pos (by omega) h1
  · omega
section RB
variable {t w : Bool} {mn od oo : Int32} {ms ml mr mw md mo mf : Nat → Int32} {nd : List (Nat × Nat × Nat × Nat)} {D : List Nat} {O : List (Nat × Nat)}
theorem rp_node (h : zrt mn ms ml mr mw nd) (hl : nd.length < 160) (hd : od = nI D.length ∧ zst nI md D) (hD : D.length < 100) (a : Nat × Nat × Nat × Nat) {x1 x2 x3 x4 : Int32} (e1 : x1 = nI (zka a.1)) (e2 : x2 = zrl a) (e3 : x3 = zrr a) (e4 : x4 = zrh a) :
    zwp (fn_Ref_node mn od ms ml mr mw md x1 x2 x3 x4) (fun r => zrt r.1 r.2.2.1 r.2.2.2.1 r.2.2.2.2.1 r.2.2.2.2.2.1 (nd ++ [a]) ∧ r.2.1 = nI (nd.length :: D).length ∧ zst nI r.2.2.2.2.2.2 (nd.length :: D)) := by
  obtain ⟨rfl, -, h1, h2, h3, h4⟩ := h
  obtain ⟨rfl, hd⟩ := hd
  have hn : nd.length < 200 := by omega
  unfold fn_Ref_node
  refine zwp_f (nI_in hn (by omega)) (zwp_f (nI_in hn (by omega)) (zwp_f (nI_in hn (by omega)) (zwp_f (nI_in hn (by omega)) (zwp_f (nI_in hD (by omega)) (zwp_some ⟨⟨?_, ?_, ?_, ?_, ?_, ?_⟩, ?_, ?_⟩)))))
  · show nI nd.length + 1 = _; rw [nI_add1, List.length_append]; rfl
  · rw [List.length_append]; exact hl
  · show zrw (upd ms (nI nd.length).toNatClampNeg x1) _ _; rw [nI_clamp (by omega)]; exact zrw_push h1 e1
  · show zrw (upd ml (nI nd.length).toNatClampNeg x2) _ _; rw [nI_clamp (by omega)]; exact zrw_push h2 e2
  · show zrw (upd mr (nI nd.length).toNatClampNeg x3) _ _; rw [nI_clamp (by omega)]; exact zrw_push h3 e3
  · show zrw (upd mw (nI nd.length).toNatClampNeg x4) _ _; rw [nI_clamp (by omega)]; exact zrw_push h4 e4
  · show nI D.length + 1 = _; rw [nI_add1]; rfl
  · show zst nI (upd md (nI D.length).toNatClampNeg (nI nd.length)) _; rw [nI_clamp (by omega)]; exact zst_push hd rfl
theorem zka_un : ∀ k, k < 25 → 3 ≤ k ∧ k ≤ 13 → ((zka k = 23 ∨ zka k = 3) ↔ ¬ (7 ≤ k ∧ k ≤ 12)) := by decide
theorem rp_reduce {q : Nat × Nat} (h : zrb mn od oo ms ml mr mw md mo mf nd D (q :: O)) (hl : nd.length < 160) (hO : O.length < 160) (hD : zbb q.1 + 1 ≤ D.length) (hD2 : D.length ≤ 90) (hq : 3 ≤ q.1 ∧ q.1 ≤ 13) :
    zwp (fn_Ref_reduce mn od oo ms ml mr mw md mo mf) (fun s => zrb s.1 s.2.1 s.2.2.1 s.2.2.2.1 s.2.2.2.2.1 s.2.2.2.2.2.1 s.2.2.2.2.2.2.1 s.2.2.2.2.2.2.2 mo mf (zap q nd D).1 (zap q nd D).2 O) := by
  obtain ⟨h1, ⟨rfl, h2⟩, rfl, h3, h4⟩ := h
  have hk := zka_un q.1 (by omega) hq
  have hz := zka_lt q.1 (by omega)
  have e23 : nI (zka q.1) = 23 ↔ zka q.1 = 23 := nI_inj (b := 23) (by omega) (by omega)
  have e3 : nI (zka q.1) = 3 ↔ zka q.1 = 3 := nI_inj (b := 3) (by omega) (by omega)
  unfold fn_Ref_reduce
  simp only [List.length_cons, nI_sub1]
  rw [nI_clamp (by omega : O.length < 2 ^ 31), h3.1]
  refine zwp_f (nI_in2 (by omega) (by omega)) ?_
  unfold zap
  unfold zbb at hD
  match D, hD, h2, hD2 with
  | [], hD, _, _ => split at hD <;> simp at hD
  | r :: D', hD, h2, hD2 =>
    simp only [List.length_cons, nI_sub1] at hD hD2 ⊢
    rw [nI_clamp (by omega : D'.length < 2 ^ 31), h2.1]
    refine zwp_f (nI_in2 (by omega) (by omega)) ?_
    by_cases hb : 7 ≤ q.1 ∧ q.1 ≤ 12
    · rw [if_pos hb] at hD ⊢
      have hn : ¬ (zka q.1 = 23 ∨ zka q.1 = 3) := fun h => hk.mp h hb
      refine zwp_f (fun h => hn (Or.inl (e23.mp h))) (zwp_f (fun h => hn (Or.inr (e3.mp h))) ?_)
      match D', hD, h2, hD2 with
      | [], hD, _, _ => simp at hD
      | a :: D'', hD, h2, hD2 =>
        simp only [List.length_cons, nI_sub1] at hD hD2 ⊢
        rw [nI_clamp (by omega : D''.length < 2 ^ 31), h2.2.1]
        refine zwp_f (nI_in2 (by omega) (by omega)) ?_
        refine zwp_seq (rp_node (D := D'') h1 hl ⟨rfl, h2.2.2⟩ (by omega) (q.1, q.2, a, r) rfl (by unfold zrl; rw [if_pos hb]) (by unfold zrr; rw [if_pos hb]) (by unfold zrh zwt; dsimp only; rw [if_neg (by omega), if_neg (by omega)]; rfl)) (fun s hs => zwp_some ⟨hs.1, hs.2, rfl, h3.2, h4.2⟩)
    · rw [if_neg hb] at hD ⊢
      have h51 : zwp (fn_Ref_reduce_b51 mo mf mn (nI D'.length) (nI O.length) ms ml mr mw md (nI (zka q.1)) (nI r)) (fun s => zrb s.1 s.2.1 s.2.2.1 s.2.2.2.1 s.2.2.2.2.1 s.2.2.2.2.2.1 s.2.2.2.2.2.2.1 s.2.2.2.2.2.2.2 mo mf (nd ++ [(q.1, q.2, r, 0)]) (nd.length :: D') O) := by
        unfold fn_Ref_reduce_b51
        refine zwp_f (nI_in (by omega) (by omega)) ?_
        rw [nI_clamp (by omega : O.length < 2 ^ 31), h4.1]
        refine zwp_seq (rp_node (D := D') h1 hl ⟨rfl, h2.2⟩ (by omega) (q.1, q.2, r, 0) rfl (by unfold zrl; rw [if_neg hb]) (by unfold zrr; rw [if_neg hb, if_neg (by show ¬ q.1 ≤ 2; omega)]) (by unfold zrh; rw [if_neg (by show ¬ q.1 ≤ 2; omega)])) (fun s hs => zwp_some ⟨hs.1, hs.2, rfl, h3.2, h4.2⟩)
      by_cases h23 : zka q.1 = 23
      · exact zwp_t (e23.mpr h23) h51
      · refine zwp_f (fun h => h23 (e23.mp h)) (zwp_t (e3.mpr ?_) h51)
        exact (hk.mpr hb).resolve_left h23
theorem rp_waits (a : Nat × Nat) (h : zrb mn od oo ms ml mr mw md mo mf nd D O) (hO : O.length < 200) {x1 x2 : Int32} (e1 : x1 = nI (zka a.1)) (e2 : x2 = nI (zwt a.1 a.2)) :
    zwp (fn_Ref_waits oo mo mf x1 x2) (fun r => zrb mn od r.1 ms ml mr mw md r.2.1 r.2.2 nd D (a :: O)) := by
  obtain ⟨h1, h2, rfl, h3, h4⟩ := h
  unfold fn_Ref_waits
  refine zwp_f (nI_in hO (by omega)) (zwp_f (nI_in hO (by omega)) (zwp_some ⟨h1, h2, ?_, ?_, ?_⟩))
  · show nI O.length + 1 = _; rw [nI_add1]; rfl
  · show zst _ (upd mo (nI O.length).toNatClampNeg x1) _; rw [nI_clamp (by omega)]; exact zst_push h3 e1
  · show zst _ (upd mf (nI O.length).toNatClampNeg x2) _; rw [nI_clamp (by omega)]; exact zst_push h4 e2
/-- operators go as long as the reference's strength says so, which is as long as the level does -/
theorem rp_down (x1 : Int32) (x2 x3 : Int32) (m : Nat) (hm : 1 ≤ m) : ∀ (n : Nat) (O : List (Nat × Nat)) (nd : List (Nat × Nat × Nat × Nat)) (D : List Nat) (mn od oo : Int32) (ms ml mr mw md : Nat → Int32),
    O.length < n → zrb mn od oo ms ml mr mw md mo mf nd D O → nd.length + O.length ≤ 160 → zbn O < D.length → D.length ≤ 90 → (∀ q ∈ O, zwk q.1) →
    (∀ q O', (∃ pre, O = pre ++ q :: O' ∧ ∀ u ∈ pre, m ≤ zlev t w u.1) → (fn_Ref_strength (nI (zka q.1)) x2 x3 < x1 ↔ ¬ m ≤ zlev t w q.1)) →
    zwp (fn_Ref_reduceDownTo_L0 mo mf n mn od oo ms ml mr mw md x1 x2 x3)
      (fun s => zrb s.1 s.2.1 s.2.2.1 s.2.2.2.1 s.2.2.2.2.1 s.2.2.2.2.2.1 s.2.2.2.2.2.2.1 s.2.2.2.2.2.2.2 mo mf (zdown (zlev t w) m O nd D).1 (zdown (zlev t w) m O nd D).2.1 (zdown (zlev t w) m O nd D).2.2)
  | 0, _, _, _, _, _, _, _, _, _, _, _, h, _, _, _, _, _, _ => absurd h (Nat.not_lt_zero _)
  | n + 1, [], nd, D, mn, od, oo, _, _, _, _, _, hn, h, hc, hb, hD, hk, hst => by
    unfold fn_Ref_reduceDownTo_L0
    exact zwp_t (by rw [h.2.2.1]; exact Int32.le_refl _) (zwp_some h)
  | n + 1, q :: O, nd, D, mn, od, oo, ms, ml, mr, mw, md, hn, h, hc, hb, hD, hk, hst => by
    have hzk := hk q (by simp)
    have hs0 := hst q O ⟨[], rfl, by simp⟩
    unfold fn_Ref_reduceDownTo_L0
    have e := h.2.2.1
    simp only [List.length_cons] at hc hn e
    rw [e]
    refine zwp_f (show ¬ nI (O.length + 1) ≤ 0 from nI_ge (a := 0) (by omega) (by omega)) ?_
    simp only [nI_sub1]
    refine zwp_f (nI_in (by omega) (by omega)) ?_
    rw [nI_clamp (by omega : O.length < 2 ^ 31), h.2.2.2.1.1]
    unfold zdown
    by_cases hlv : m ≤ zlev t w q.1
    · rw [if_pos hlv]
      refine zwp_f (fun h => hs0.mp h hlv) ?_
      have hne : q.1 ≠ 22 := (zlev_1 (t := t) (w := w) hzk).mp (by omega)
      have hq13 : 3 ≤ q.1 ∧ q.1 ≤ 13 := by unfold zwk at hzk; omega
      have hb' : zbn O + zbb q.1 < D.length := hb
      rw [← e]
      refine zwp_seq (rp_reduce h (by omega) (by omega) (by omega) hD hq13) (fun s hs => ?_)
      obtain ⟨g1, g2⟩ := zap_len q nd D
      have g2 := g2 (by omega)
      refine rp_down x1 x2 x3 m hm n O _ _ _ _ _ _ _ _ _ _ (by omega) hs (by omega) (by omega) (by omega) (fun q hq => hk q (by simp [hq])) (fun q' O' h' => ?_)
      obtain ⟨pre, e1, e2⟩ := h'
      refine hst q' O' ⟨q :: pre, by rw [e1]; rfl, ?_⟩
      intro u hu
      rcases List.mem_cons.mp hu with rfl | hu
      · exact hlv
      · exact e2 u hu
    · rw [if_neg hlv, ← e]
      exact zwp_t (hs0.mpr hlv) (zwp_some h)
end RB
theorem st_1 : ∀ k, k < 25 → (3 ≤ k ∧ k ≤ 13 ∨ k = 22) → ∀ t w : Bool, (fn_Ref_strength (nI (zka k)) (zb2 t) (zb2 w) < 1 ↔ ¬ 1 ≤ zlev t w k) := by decide +kernel
theorem st_3 : ∀ k, k < 25 → (3 ≤ k ∧ k ≤ 13 ∨ k = 22) → ∀ t w : Bool, (fn_Ref_strength (nI (zka k)) (zb2 t) (zb2 w) < 3 ↔ ¬ 3 ≤ zlev t w k) := by decide +kernel
theorem st_j : ∀ k, k < 25 → (3 ≤ k ∧ k ≤ 13 ∨ k = 22) → ∀ t : Bool, (fn_Ref_strength (nI (zka k)) (zb2 t) 0 < (if t = true then 4 else 3) ↔ ¬ 4 ≤ zlev t false k) := by decide +kernel
theorem st_jw : ∀ k, k < 25 → (7 ≤ k ∧ k ≤ 13 ∨ k = 22) → ∀ t : Bool, (fn_Ref_strength (nI (zka k)) (zb2 t) 1 < (if t = true then 4 else 3) ↔ ¬ 4 ≤ zlev t true k) := by decide +kernel
theorem st_w : ∀ k, k < 25 → (3 ≤ k ∧ k ≤ 13 ∨ k = 22) → ((fn_Ref_strength (nI (zka k)) 1 1 ≤ 2 ↔ (k = 7 ∨ k = 8 ∨ k = 13 ∨ k = 22)) ∧ (zka k = 10 ↔ k = 22) ∧ (zka k = 3 ↔ k ≤ 6)) := by decide +kernel
/-- a function waits in this bracket's own part of the sum -/
def zfw : List (Nat × Nat) → Bool
  | [] => false
  | q :: O => if q.1 = 22 ∨ q.1 = 7 ∨ q.1 = 8 ∨ q.1 = 13 then false else if q.1 ≤ 6 then true else zfw O
/-- over a waiting * or / no function waits -/
def zwi : List (Nat × Nat) → Prop
  | [] => True
  | q :: O => (q.1 = 9 ∨ q.1 = 10 → zfw O = false) ∧ zwi O
theorem zwi_suf : ∀ (pre O : List (Nat × Nat)), zwi (pre ++ O) → zwi O
  | [], O, h => h
  | q :: pre, O, h => zwi_suf pre O h.2
theorem zlev4_t : ∀ k, k < 25 → (3 ≤ k ∧ k ≤ 13 ∨ k = 22) → ∀ t : Bool, 4 ≤ zlev t true k → 9 ≤ k ∧ k ≤ 12 := by decide +kernel
theorem zlev4 (t : Bool) {k : Nat} (h : zwk k) (h4 : 4 ≤ zlev t true k) : 9 ≤ k ∧ k ≤ 12 := zlev4_t k (zwk_r h).2 h t h4
theorem zfw_pre : ∀ (pre O' : List (Nat × Nat)) (q : Nat × Nat), (∀ u ∈ pre, 9 ≤ u.1 ∧ u.1 ≤ 12) → 3 ≤ q.1 ∧ q.1 ≤ 6 → zfw (pre ++ q :: O') = true
  | [], O', q, _, h => by
    show zfw (q :: O') = true
    unfold zfw; rw [if_neg (by omega), if_pos (by omega)]
  | u :: pre, O', q, h1, h => by
    have := h1 u (by simp)
    show zfw (u :: (pre ++ q :: O')) = true
    unfold zfw; rw [if_neg (by omega), if_neg (by omega)]
    exact zfw_pre pre O' q (fun x hx => h1 x (by simp [hx])) h
section RB
variable {t w : Bool} {mn od oo : Int32} {ms ml mr mw md mo mf : Nat → Int32} {nd : List (Nat × Nat × Nat × Nat)} {D : List Nat} {O : List (Nat × Nat)}
theorem rp_fw (c : Int32) : ∀ (n : Nat) (O : List (Nat × Nat)), O.length < n → O.length ≤ 160 → (∀ q ∈ O, zwk q.1) → zst (fun q => nI (zka q.1)) mo O → fn_Ref_isFunctionWaiting_L7 c mo n (nI O.length - 1) = some (if zfw O = true then 1 else 0)
  | 0, _, h, _, _, _ => absurd h (Nat.not_lt_zero _)
  | n + 1, [], _, _, _, _ => by
    unfold fn_Ref_isFunctionWaiting_L7
    rw [if_pos (by decide)]; rfl
  | n + 1, q :: O, hn, hl, hk, hz => by
    have hq := hk q (by simp)
    have hq' : 3 ≤ q.1 ∧ q.1 ≤ 13 ∨ q.1 = 22 := hq
    simp only [List.length_cons] at hn hl
    obtain ⟨s1, s2, s3⟩ := st_w q.1 (by omega) hq'
    have hzl := zka_lt q.1 (by omega)
    have e10 : nI (zka q.1) = 10 ↔ zka q.1 = 10 := nI_inj (b := 10) (by omega) (by omega)
    have e3 : nI (zka q.1) = 3 ↔ zka q.1 = 3 := nI_inj (b := 3) (by omega) (by omega)
    unfold fn_Ref_isFunctionWaiting_L7
    simp only [List.length_cons, nI_sub1]
    rw [if_neg (nI_pos (by omega)), if_neg (nI_in (by omega) (by omega)), nI_clamp (by omega : O.length < 2 ^ 31), hz.1]
    have hg := nI_in2 (c := O.length) (N := 200) (by omega) (by omega)
    unfold zfw
    by_cases h22 : q.1 = 22
    · rw [if_pos (e10.mpr (s2.mpr h22)), if_pos (Or.inl h22)]; rfl
    · rw [if_neg (fun h => h22 (s2.mp (e10.mp h))), if_neg hg]
      by_cases h7 : q.1 = 7 ∨ q.1 = 8 ∨ q.1 = 13 ∨ q.1 = 22
      · rw [if_pos (s1.mpr h7), if_pos (show q.1 = 22 ∨ q.1 = 7 ∨ q.1 = 8 ∨ q.1 = 13 by omega)]; rfl
      · rw [if_neg (fun h => h7 (s1.mp h)), if_neg hg, if_neg (show ¬ (q.1 = 22 ∨ q.1 = 7 ∨ q.1 = 8 ∨ q.1 = 13) by omega)]
        by_cases h6 : q.1 ≤ 6
        · rw [if_pos (e3.mpr (s3.mpr h6)), if_pos h6]; rfl
        · rw [if_neg (fun h => h6 (s3.mp (e3.mp h))), if_neg h6, show nI O.length + -1 = nI O.length - 1 from (Int32.sub_eq_add_neg _ _).symm]
          exact rp_fw c n O (by omega) (by omega) (fun x hx => hk x (by simp [hx])) hz.2
theorem rp_push12 (h : zrb mn od oo ms ml mr mw md mo mf nd D O) (hO : O.length < 200) :
    zwp (fn_Ref_juxtapose_b48 mn od oo ms ml mr mw md mo mf) (fun s => zrb s.1 s.2.1 s.2.2.1 s.2.2.2.1 s.2.2.2.2.1 s.2.2.2.2.2.1 s.2.2.2.2.2.2.1 s.2.2.2.2.2.2.2.1 s.2.2.2.2.2.2.2.2.1 s.2.2.2.2.2.2.2.2.2 nd D ((12, 0) :: O)) := by
  unfold fn_Ref_juxtapose_b48
  exact zwp_seq (rp_waits (12, 0) h hO rfl rfl) (fun s hs => zwp_some hs)
/-- until a function is at the top -/
theorem rp_jl : ∀ (n : Nat) (O : List (Nat × Nat)) (nd : List (Nat × Nat × Nat × Nat)) (D : List Nat) (mn od oo : Int32) (ms ml mr mw md : Nat → Int32),
    O.length < n → zrb mn od oo ms ml mr mw md mo mf nd D O → nd.length + O.length ≤ 160 → zbn O < D.length → D.length ≤ nd.length → D.length ≤ 90 → (∀ q ∈ O, zwk q.1) → zfw O = true → zwi O →
    zwp (fn_Ref_juxtapose_L11 n mn od oo ms ml mr mw md mo mf) (fun s => zrb s.1 s.2.1 s.2.2.1 s.2.2.2.1 s.2.2.2.2.1 s.2.2.2.2.2.1 s.2.2.2.2.2.2.1 s.2.2.2.2.2.2.2.1 s.2.2.2.2.2.2.2.2.1 s.2.2.2.2.2.2.2.2.2
      (zdown (zlev t true) 4 O nd D).1 (zdown (zlev t true) 4 O nd D).2.1 ((12, 0) :: (zdown (zlev t true) 4 O nd D).2.2))
  | 0, _, _, _, _, _, _, _, _, _, _, _, h, _, _, _, _, _, _, _, _ => absurd h (Nat.not_lt_zero _)
  | n + 1, [], _, _, _, _, _, _, _, _, _, _, _, _, _, _, _, _, _, h, _ => by cases h
  | n + 1, q :: O, nd, D, mn, od, oo, ms, ml, mr, mw, md, hn, h, hc, hb, hDn, hD, hk, hf, hw => by
    have hzk := hk q (by simp)
    have hq' : 3 ≤ q.1 ∧ q.1 ≤ 13 ∨ q.1 = 22 := hzk
    obtain ⟨s1, s2, s3⟩ := st_w q.1 (by omega) hq'
    have hzl := zka_lt q.1 (by omega)
    have e3 : nI (zka q.1) = 3 ↔ zka q.1 = 3 := nI_inj (b := 3) (by omega) (by omega)
    unfold fn_Ref_juxtapose_L11
    have e := h.2.2.1
    simp only [List.length_cons] at hc hn e
    have eo : oo - 1 = nI O.length := by rw [e, nI_sub1]
    rw [eo, nI_clamp (by omega : O.length < 2 ^ 31), h.2.2.2.1.1]
    refine zwp_f (nI_in2 (by omega) (by omega)) ?_
    unfold zdown
    by_cases h6 : q.1 ≤ 6
    · have hlv : ¬ 4 ≤ zlev t true q.1 := fun h => by have := zlev4 t hzk h; omega
      rw [if_neg hlv]
      exact zwp_t (e3.mpr (s3.mpr h6)) (rp_push12 h (by simp only [List.length_cons]; omega))
    · unfold zfw at hf
      by_cases h7 : q.1 = 22 ∨ q.1 = 7 ∨ q.1 = 8 ∨ q.1 = 13
      · rw [if_pos h7] at hf; cases hf
      · rw [if_neg h7, if_neg h6] at hf
        have h9 : ¬ (q.1 = 9 ∨ q.1 = 10) := fun h9 => by have := hw.1 h9; rw [hf] at this; cases this
        have hlv : 4 ≤ zlev t true q.1 := by unfold zlev; repeat' split
                                             all_goals omega
        rw [if_pos hlv]
        refine zwp_f (fun h => h6 (s3.mp (e3.mp h))) ?_
        have hb' : zbn O + zbb q.1 < D.length := hb
        refine zwp_seq (rp_reduce h (by omega) (by omega) (by omega) hD (by omega)) (fun s hs => ?_)
        obtain ⟨g1, g2⟩ := zap_len q nd D
        have g2 := g2 (by omega)
        exact rp_jl n O _ _ _ _ _ _ _ _ _ _ (by omega) hs (by omega) (by omega) (by omega) (by omega) (fun q hq => hk q (by simp [hq])) hf hw.2
theorem rp_jux (h : zrb mn od oo ms ml mr mw md mo mf nd D O) (hc : nd.length + O.length ≤ 160) (hb : D.length = zbn O + 1) (hDn : D.length ≤ nd.length) (hD : D.length ≤ 90) (hk : ∀ q ∈ O, zwk q.1) (hw : w = true → zwi O) :
    zwp (fn_Ref_juxtapose mn od oo ms ml mr mw md mo mf (zb2 t) (zb2 w)) (fun s => zrb s.1 s.2.1 s.2.2.1 s.2.2.2.1 s.2.2.2.2.1 s.2.2.2.2.2.1 s.2.2.2.2.2.2.1 s.2.2.2.2.2.2.2.1 s.2.2.2.2.2.2.2.2.1 s.2.2.2.2.2.2.2.2.2
      (zdown (zlev t w) 4 O nd D).1 (zdown (zlev t w) 4 O nd D).2.1 ((12, 0) :: (zdown (zlev t w) 4 O nd D).2.2)) := by
  obtain ⟨a1, -⟩ := zinv_down (t := t) (w := w) 4 (by omega) hb hDn hk
  have h33 : (∀ q O', (∃ pre, O = pre ++ q :: O' ∧ ∀ u ∈ pre, 4 ≤ zlev t w u.1) → (fn_Ref_strength (nI (zka q.1)) (zb2 t) (zb2 w) < (if t = true then 4 else 3) ↔ ¬ 4 ≤ zlev t w q.1)) →
      zwp (fn_Ref_juxtapose_b33 mn od oo ms ml mr mw md mo mf (zb2 t) (zb2 w)) (fun s => zrb s.1 s.2.1 s.2.2.1 s.2.2.2.1 s.2.2.2.2.1 s.2.2.2.2.2.1 s.2.2.2.2.2.2.1 s.2.2.2.2.2.2.2.1 s.2.2.2.2.2.2.2.2.1 s.2.2.2.2.2.2.2.2.2
      (zdown (zlev t w) 4 O nd D).1 (zdown (zlev t w) 4 O nd D).2.1 ((12, 0) :: (zdown (zlev t w) 4 O nd D).2.2)) := by
    intro hst
    have h43 : zwp (fn_Ref_juxtapose_b43 mn od oo ms ml mr mw md mo mf (zb2 t) (zb2 w) (if t = true then 4 else 3)) (fun s => zrb s.1 s.2.1 s.2.2.1 s.2.2.2.1 s.2.2.2.2.1 s.2.2.2.2.2.1 s.2.2.2.2.2.2.1 s.2.2.2.2.2.2.2.1 s.2.2.2.2.2.2.2.2.1 s.2.2.2.2.2.2.2.2.2
      (zdown (zlev t w) 4 O nd D).1 (zdown (zlev t w) 4 O nd D).2.1 ((12, 0) :: (zdown (zlev t w) 4 O nd D).2.2)) := by
      unfold fn_Ref_juxtapose_b43 fn_Ref_reduceDownTo
      refine zwp_seq (rp_down (t := t) (w := w) _ _ _ 4 (by omega) zFU O nd D _ _ _ _ _ _ _ _ (Nat.lt_of_le_of_lt (Nat.le_trans (Nat.le_add_left _ _) hc) (by decide)) h hc (by omega) hD hk hst) (fun s hs => ?_)
      exact rp_push12 hs (by omega)
    unfold fn_Ref_juxtapose_b33
    cases t with
    | true => exact zwp_f (by decide) h43
    | false => exact zwp_t (by decide) h43
  unfold fn_Ref_juxtapose
  cases w with
  | false =>
    refine zwp_t rfl (h33 fun q O' h' => ?_)
    obtain ⟨pre, e, -⟩ := h'
    have hq : zwk q.1 := hk q (by rw [e]; simp)
    exact st_j q.1 (zwk_r hq).2 hq t
  | true =>
    refine zwp_f (by decide) ?_
    unfold fn_Ref_isFunctionWaiting
    rw [h.2.2.1, rp_fw _ zFU O (Nat.lt_of_le_of_lt (Nat.le_trans (Nat.le_add_left _ _) hc) (by decide)) (by omega) hk h.2.2.2.1, Option.bind_some, ← h.2.2.1]
    cases hf : zfw O with
    | false =>
      refine zwp_t (by simp) (h33 fun q O' h' => ?_)
      obtain ⟨pre, e, h4⟩ := h'
      have hq : zwk q.1 := hk q (by rw [e]; simp)
      refine st_jw q.1 (zwk_r hq).2 ?_ t
      have hq' : 3 ≤ q.1 ∧ q.1 ≤ 13 ∨ q.1 = 22 := hq
      rcases Nat.lt_or_ge q.1 7 with h7 | h7
      · have := zfw_pre pre O' q (fun u hu => zlev4 t (hk u (by rw [e]; simp [hu])) (h4 u hu)) (by omega)
        rw [← e, hf] at this; cases this
      · omega
    | true =>
      refine zwp_f (by decide) ?_
      exact rp_jl zFU O nd D _ _ _ _ _ _ _ _ (Nat.lt_of_le_of_lt (Nat.le_trans (Nat.le_add_left _ _) hc) (by decide)) h hc (by omega) hDn hD hk hf (hw rfl)
theorem rp_close : ∀ (n : Nat) (O : List (Nat × Nat)) (nd : List (Nat × Nat × Nat × Nat)) (D : List Nat) (mn od oo : Int32) (ms ml mr mw md : Nat → Int32),
    O.length < n → zrb mn od oo ms ml mr mw md mo mf nd D O → nd.length + O.length ≤ 160 → zbn O < D.length → D.length ≤ 90 → (∀ q ∈ O, zwk q.1) → 0 < zop O →
    zwp (fn_Ref_closes_L0 mo mf n mn od oo ms ml mr mw md) (fun s => zrb s.1 s.2.1 s.2.2.1 s.2.2.2.1 s.2.2.2.2.1 s.2.2.2.2.2.1 s.2.2.2.2.2.2.1 s.2.2.2.2.2.2.2 mo mf (zdown (zlev t w) 1 O nd D).1 (zdown (zlev t w) 1 O nd D).2.1 ((zdown (zlev t w) 1 O nd D).2.2.drop 1))
  | 0, _, _, _, _, _, _, _, _, _, _, _, h, _, _, _, _, _, _ => absurd h (Nat.not_lt_zero _)
  | n + 1, [], _, _, _, _, _, _, _, _, _, _, _, _, _, _, _, _, h => absurd h (Nat.lt_irrefl 0)
  | n + 1, q :: O, nd, D, mn, od, oo, ms, ml, mr, mw, md, hn, h, hc, hb, hD, hk, hz => by
    have hzk := hk q (by simp)
    have hq' : 3 ≤ q.1 ∧ q.1 ≤ 13 ∨ q.1 = 22 := hzk
    obtain ⟨s1, s2, s3⟩ := st_w q.1 (by omega) hq'
    have hzl := zka_lt q.1 (by omega)
    have e10 : nI (zka q.1) = 10 ↔ zka q.1 = 10 := nI_inj (b := 10) (by omega) (by omega)
    unfold fn_Ref_closes_L0
    have e := h.2.2.1
    simp only [List.length_cons] at hc hn e
    have eo : oo - 1 = nI O.length := by rw [e, nI_sub1]
    rw [eo, nI_clamp (by omega : O.length < 2 ^ 31), h.2.2.2.1.1]
    refine zwp_f (nI_in2 (by omega) (by omega)) ?_
    unfold zdown
    by_cases h22 : q.1 = 22
    · have hlv : ¬ 1 ≤ zlev t w q.1 := fun h => (zlev_1 hzk).mp h h22
      rw [if_neg hlv]
      exact zwp_t (e10.mpr (s2.mpr h22)) (zwp_some ⟨h.1, h.2.1, rfl, h.2.2.2.1.2, h.2.2.2.2.2⟩)
    · rw [if_pos ((zlev_1 hzk).mpr h22)]
      refine zwp_f (fun h => h22 (s2.mp (e10.mp h))) ?_
      have hb' : zbn O + zbb q.1 < D.length := hb
      refine zwp_seq (rp_reduce h (by omega) (by omega) (by omega) hD (by omega)) (fun s hs => ?_)
      obtain ⟨g1, g2⟩ := zap_len q nd D
      have g2 := g2 (by omega)
      have hz' : zop O + (if q.1 = 22 then 1 else 0) > 0 := hz
      rw [if_neg h22] at hz'
      exact rp_close n O _ _ _ _ _ _ _ _ _ _ (by omega) hs (by omega) (by omega) (by omega) (fun q hq => hk q (by simp [hq])) hz'
theorem rp_end (S : List (Nat × Nat)) (j : Nat) (su : Int32) (mroot : Nat → Int32) (hS : S.length < 10) (hsu : su = nI S.length) (hro : zrw mroot (fun q => nI q.2) S) : ∀ (n : Nat) (O : List (Nat × Nat)) (nd : List (Nat × Nat × Nat × Nat)) (D : List Nat) (mn od oo : Int32) (ms ml mr mw md : Nat → Int32),
    O.length < n → zrb mn od oo ms ml mr mw md mo mf nd D O → nd.length + O.length ≤ 160 → D.length = zbn O + 1 → D.length ≤ 90 → (∀ q ∈ O, zwk q.1) → zop O = 0 →
    zwp (fn_Ref_endSum_L0 mo mf n mn su od oo ms ml mr mw mroot md) (fun s => zrb s.1 s.2.2.1 s.2.2.2.1 s.2.2.2.2.1 s.2.2.2.2.2.1 s.2.2.2.2.2.2.1 s.2.2.2.2.2.2.2.1 s.2.2.2.2.2.2.2.2.2 mo mf (zdown (zlev t w) 1 O nd D).1 ((zdown (zlev t w) 1 O nd D).2.1.drop 1) (zdown (zlev t w) 1 O nd D).2.2
      ∧ s.2.1 = nI (S ++ [(j, (zdown (zlev t w) 1 O nd D).2.1.getD 0 0)]).length ∧ zrw s.2.2.2.2.2.2.2.2.1 (fun q => nI q.2) (S ++ [(j, (zdown (zlev t w) 1 O nd D).2.1.getD 0 0)]))
  | 0, _, _, _, _, _, _, _, _, _, _, _, h, _, _, _, _, _, _ => absurd h (Nat.not_lt_zero _)
  | n + 1, [], nd, D, mn, od, oo, ms, ml, mr, mw, md, hn, h, hc, hb, hD, hk, hz => by
    unfold fn_Ref_endSum_L0
    refine zwp_t (by rw [h.2.2.1]; exact Int32.le_refl _) ?_
    obtain ⟨h1, ⟨h2, h3⟩, h4⟩ := h
    match D, hb, h2, h3 with
    | [], hb, _, _ => simp [zbn] at hb
    | a :: D', hb, h2, h3 =>
      have hl : D'.length = 0 := by simp [zbn] at hb; exact congrArg List.length hb
      have eo : od - 1 = nI D'.length := by rw [h2, List.length_cons, nI_sub1]
      rw [eo, nI_clamp (by omega : D'.length < 2 ^ 31), h3.1, hsu, nI_clamp (by omega : S.length < 2 ^ 31)]
      refine zwp_f (nI_in2 (by omega) (by omega)) (zwp_f (nI_in2 hS (by omega)) (zwp_some ⟨⟨h1, ⟨rfl, h3.2⟩, h4⟩, ?_, ?_⟩))
      · show nI S.length + 1 = _; rw [nI_add1, List.length_append]; rfl
      · show zrw (upd mroot S.length (nI a)) _ _; exact zrw_push hro rfl
  | n + 1, q :: O, nd, D, mn, od, oo, ms, ml, mr, mw, md, hn, h, hc, hb, hD, hk, hz => by
    have hzk := hk q (by simp)
    have hz' : zop O + (if q.1 = 22 then 1 else 0) = 0 := hz
    have h22 : q.1 ≠ 22 := fun e => by rw [if_pos e] at hz'; omega
    rw [if_neg h22] at hz'
    unfold fn_Ref_endSum_L0
    have e := h.2.2.1
    simp only [List.length_cons] at hc hn e
    refine zwp_f (by rw [e]; exact nI_ge (a := 0) (by omega) (by omega)) ?_
    unfold zdown
    rw [if_pos ((zlev_1 hzk).mpr h22)]
    have hb' : D.length = zbn O + zbb q.1 + 1 := hb
    have hq13 : 3 ≤ q.1 ∧ q.1 ≤ 13 := by unfold zwk at hzk; omega
    refine zwp_seq (rp_reduce h (by omega) (by omega) (by omega) hD hq13) (fun s hs => ?_)
    obtain ⟨g1, g2⟩ := zap_len q nd D
    have g2 := g2 (by omega)
    exact rp_end S j su mroot hS hsu hro n O _ _ _ _ _ _ _ _ _ _ (by omega) hs (by omega) (by omega) (by omega) (fun q hq => hk q (by simp [hq])) (by omega)
end RB
/-! The reference builds a tree. -/
/-- the relations among the sums' first tokens -/
def zrels (S : List (Nat × Nat)) (j : Nat) : List Nat := (S.map (fun q => q.1) ++ [j]).filter (fun k => decide (14 ≤ k) && decide (k ≤ 20))
theorem zrels_push (S : List (Nat × Nat)) (j r k : Nat) : zrels (S ++ [(j, r)]) k = zrels S j ++ (if 14 ≤ k ∧ k ≤ 20 then [k] else []) := by
  unfold zrels
  rw [List.map_append, List.filter_append]
  congr 1
  by_cases h : 14 ≤ k ∧ k ≤ 20
  · rw [if_pos h]; simp [h.1, h.2]
  · rw [if_neg h]
    have : (decide (14 ≤ k) && decide (k ≤ 20)) = false := by
      simp only [Bool.and_eq_false_iff, decide_eq_false_iff_not]; omega
    simp [this]
/-- all that the reference's builder holds -/
def zrB (b : zBt) (r : Int32 × Int32 × Int32 × Int32 × Int32 × (Nat → Int32) × (Nat → Int32) × (Nat → Int32) × (Nat → Int32) × (Nat → Int32) × (Nat → Int32) × (Nat → Int32) × (Nat → Int32) × (Nat → Int32)) : Prop :=
  zrb r.1 r.2.2.2.1 r.2.2.2.2.1 r.2.2.2.2.2.1 r.2.2.2.2.2.2.1 r.2.2.2.2.2.2.2.1 r.2.2.2.2.2.2.2.2.1 r.2.2.2.2.2.2.2.2.2.2.2.1 r.2.2.2.2.2.2.2.2.2.2.2.2.1 r.2.2.2.2.2.2.2.2.2.2.2.2.2 b.1 b.2.1 b.2.2.1
  ∧ r.2.1 = nI b.2.2.2.1.length ∧ zrw r.2.2.2.2.2.2.2.2.2.1 (fun q => nI q.2) b.2.2.2.1 ∧ r.2.2.1 = nI (zrels b.2.2.2.1 b.2.2.2.2).length ∧ zrw r.2.2.2.2.2.2.2.2.2.2.1 (fun k => nI (zka k)) (zrels b.2.2.2.1 b.2.2.2.2)
theorem zdown_suf (lev : Nat → Nat) (m : Nat) : ∀ (O : List (Nat × Nat)) (nd : List (Nat × Nat × Nat × Nat)) (D : List Nat), ∃ pre, O = pre ++ (zdown lev m O nd D).2.2
  | [], _, _ => ⟨[], rfl⟩
  | q :: O, nd, D => by
    unfold zdown
    by_cases h : m ≤ lev q.1
    · rw [if_pos h]
      obtain ⟨pre, e⟩ := zdown_suf lev m O (zap q nd D).1 (zap q nd D).2
      exact ⟨q :: pre, by rw [List.cons_append, ← e]⟩
    · rw [if_neg h]; exact ⟨[], rfl⟩
theorem zwi_down (lev : Nat → Nat) (m : Nat) {O : List (Nat × Nat)} (h : zwi O) (nd : List (Nat × Nat × Nat × Nat)) (D : List Nat) : zwi (zdown lev m O nd D).2.2 := by
  obtain ⟨pre, e⟩ := zdown_suf lev m O nd D
  exact zwi_suf pre _ (by rw [← e]; exact h)
theorem zwi_jux {t w af : Bool} {k : Nat} {nd : List (Nat × Nat × Nat × Nat)} {D : List Nat} {O : List (Nat × Nat)} (h : zwi O) : zwi (zjux t w af k nd D O).2.2 := by
  unfold zjux
  split
  · exact ⟨fun h => (by rcases h with h | h <;> cases h), zwi_down _ _ h _ _⟩
  · exact h
theorem zlev3_t : ∀ k, k < 25 → (3 ≤ k ∧ k ≤ 13 ∨ k = 22) → ∀ t : Bool, zlev t true k < 3 → k = 22 ∨ k = 7 ∨ k = 8 ∨ k = 13 := by decide +kernel
theorem zprime_wi {O : List (Nat × Nat)} (h : zwi O) : zwi (zprime O) := by
  cases O with
  | nil => exact h
  | cons q O => exact h
section RL
variable {t w : Bool} {σ σ' : Nat × Nat × Nat × Nat × Nat} {i k d : Nat} {nd : List (Nat × Nat × Nat × Nat)} {D : List Nat} {O S : List (Nat × Nat)} {j : Nat}
/-- what the reference needs beside: where functions wait, and how many links there are -/
def zinw (w : Bool) (σ : Nat × Nat × Nat × Nat × Nat) (O S : List (Nat × Nat)) (j : Nat) : Prop := (w = true → zwi O) ∧ (zrels S j).length = σ.2.2.1 ∧ (σ.2.2.2.2 = 1 → j = 20)
theorem zinw_step (h : zinv σ i nd D O S) (hw : zinw w σ O S j) (hz : zsy σ k = some σ') (hk : k < 25) :
    zinw w σ' (ztk t w (decide (σ.1 = 3)) k d nd D O S j).2.2.1 (ztk t w (decide (σ.1 = 3)) k d nd D O S j).2.2.2.1 (ztk t w (decide (σ.1 = 3)) k d nd D O S j).2.2.2.2 := by
  obtain ⟨w1, w2, w3⟩ := hw
  obtain ⟨g1, g2, g3, g4, g5, g6, g7, g8, g9⟩ := h
  have hj := zwi_jux (t := t) (w := w) (af := decide (σ.1 = 3)) (k := k) (nd := nd) (D := D) (O := O)
  obtain ⟨st, dp, l, p, o⟩ := σ
  dsimp only at g2 w2 w3 hj ⊢
  unfold ztk
  have hne : ∀ (q : Nat × Nat) (X : List (Nat × Nat)), q.1 ≠ 9 → q.1 ≠ 10 → zwi X → zwi (q :: X) := fun q X h1 h2 h3 => ⟨fun h => by rcases h with h | h; (· exact absurd h h1); exact absurd h h2, h3⟩
  rcases zsy_cases hz with ⟨h1, rfl⟩ | ⟨h1, rfl⟩ | ⟨h1, rfl⟩ | ⟨h1, h2, h3, rfl⟩ | ⟨h1, h2, rfl⟩ | ⟨h1, h2, rfl⟩ | ⟨h1, h2, h3, rfl⟩ | ⟨h1, h2, h3, h4, rfl⟩ | ⟨h1, h2, h3, h4, h5, rfl⟩
  · rw [z0_a (by omega)]; exact ⟨fun h => hj (w1 h), w2, w3⟩
  · rw [z0_b (by omega)]; exact ⟨fun h => hne _ _ (by dsimp only; omega) (by dsimp only; omega) (hj (w1 h)), w2, w3⟩
  · rw [z0_b (by omega)]; exact ⟨fun h => hne _ _ (by dsimp only; omega) (by dsimp only; omega) (hj (w1 h)), w2, w3⟩
  · rw [z0_c h1]; exact ⟨fun h => zprime_wi (hj (w1 h)), w2, w3⟩
  · rw [z0_d h1 (by simp [h2])]; exact ⟨fun h => hne _ _ (by decide) (by decide) (hj (w1 h)), w2, w3⟩
  · rw [z0_e h1 (by simp [h2]), zjux_no (by omega)]
    refine ⟨fun h => ?_, w2, w3⟩
    have hw := w1 h
    refine ⟨fun h9 => ?_, zwi_down _ _ hw _ _⟩
    dsimp only at h9
    have hc : zcom k = 3 := by unfold zcom; rw [if_neg (by omega), if_pos h9]
    rw [hc]
    rw [if_pos h2] at g2
    obtain ⟨-, -, -, -, a5, -, a7⟩ := zinv_down (t := t) (w := w) 3 (by omega) g2 g3 g5
    dsimp only
    cases hO : (zdown (zlev t w) 3 O nd D).2.2 with
    | nil => rfl
    | cons q O' =>
      have h1 := a7 q O' hO
      have hq : zwk q.1 := a5 q (by rw [hO]; simp)
      rw [h] at h1
      have := zlev3_t q.1 (zwk_r hq).2 hq t h1
      unfold zfw; rw [if_pos this]
  · rw [z0_f h1, zjux_no (by omega)]
    refine ⟨fun h => ?_, w2, w3⟩
    have := zwi_down (zlev t w) 1 (w1 h) nd D
    dsimp only
    cases hO : (zdown (zlev t w) 1 O nd D).2.2 with
    | nil => trivial
    | cons q O' => rw [hO] at this; exact this.2
  · rw [z0_g (by omega), zjux_no (by omega)]
    refine ⟨fun h => zwi_down _ _ (w1 h) _ _, ?_, fun h => (by cases h)⟩
    dsimp only
    rw [zrels_push, if_neg (by omega), List.append_nil]; exact w2
  · rw [z0_g (by omega), zjux_no (by omega)]
    refine ⟨fun h => zwi_down _ _ (w1 h) _ _, ?_, fun h => ?_⟩
    · dsimp only
      rw [zrels_push, if_pos h1, List.length_append, w2]; rfl
    · dsimp only at h ⊢
      split at h
      · assumption
      · cases h
end RL
section RM
variable {t w : Bool} {mk ma : Nat → Int32} {l : List (Nat × Nat × Nat)}
abbrev zRt : Type := Int32 × Int32 × Int32 × Int32 × Int32 × (Nat → Int32) × (Nat → Int32) × (Nat → Int32) × (Nat → Int32) × (Nat → Int32) × (Nat → Int32) × (Nat → Int32) × (Nat → Int32) × (Nat → Int32)
abbrev zKt : Type := Int32 → Int32 → Int32 → Int32 → Int32 → (Nat → Int32) → (Nat → Int32) → (Nat → Int32) → (Nat → Int32) → (Nat → Int32) → (Nat → Int32) → (Nat → Int32) → (Nat → Int32) → (Nat → Int32) → Int32 → Int32 → Int32 → Int32 → Option zRt
def zK (K : zKt) (r : zRt) (a b c d : Int32) : Option zRt := K r.1 r.2.1 r.2.2.1 r.2.2.2.1 r.2.2.2.2.1 r.2.2.2.2.2.1 r.2.2.2.2.2.2.1 r.2.2.2.2.2.2.2.1 r.2.2.2.2.2.2.2.2.1 r.2.2.2.2.2.2.2.2.2.1 r.2.2.2.2.2.2.2.2.2.2.1 r.2.2.2.2.2.2.2.2.2.2.2.1 r.2.2.2.2.2.2.2.2.2.2.2.2.1 r.2.2.2.2.2.2.2.2.2.2.2.2.2 a b c d
theorem zka_k1 : ∀ k, k < 25 → (zka k = 1 ↔ k = 1) ∧ (zka k = 2 ↔ k = 2) ∧ (zka k = 3 ↔ 3 ≤ k ∧ k ≤ 6) ∧ (zka k = 4 ↔ k = 24) ∧ (zka k = 10 ↔ k = 22) ∧ (zka k = 11 ↔ k = 23) := by decide +kernel
theorem zka_k2 : ∀ k, k < 25 → (fn_Ref_in (nI (zka k)).toInt64 5 9 = 0 ↔ ¬ (7 ≤ k ∧ k ≤ 11)) ∧ (zka k = 19 ↔ k = 21) ∧ (zka k = 9 ↔ k = 11) ∧ (zka k = 6 ↔ k = 8) ∧ (zka k = 5 ↔ k = 7) := by decide +kernel
theorem rp_149 {σ σ' : Nat × Nat × Nat × Nat × Nat} {i x k d : Nat} {b : zBt} (K : zKt) (P : zRt → Prop) (hi : i < 80) (hx : x = i) (hz : zsy σ k = some σ') (hk : k < 25) (hkk : k ≠ 0 ∧ k ≠ 12 ∧ k ≠ 13) (hok : zsok σ) (hs2 : b.2.2.2.1.length + σ.2.2.2.2 ≤ 2 * σ.2.2.1) (hrl : (zrels b.2.2.2.1 b.2.2.2.2).length = σ.2.2.1)
    (q1 : b.1.length + b.2.2.1.length ≤ 2 * i + 1) (q2 : σ.1 ≠ 3 ∨ 1 ≤ k ∧ k ≤ 6 ∨ k = 22 → b.2.1.length = zbn b.2.2.1) (q2' : σ.1 = 3 → ¬ (1 ≤ k ∧ k ≤ 6 ∨ k = 22) → b.2.1.length = zbn b.2.2.1 + 1) (q3 : b.2.1.length ≤ b.1.length) (q4 : b.2.1.length ≤ i) (q5 : ∀ q ∈ b.2.2.1, zwk q.1) (q6 : zop b.2.2.1 = σ.2.1) (q7 : σ.1 = 2 → ∃ k O', b.2.2.1 = (k, σ.2.2.2.1) :: O' ∧ 3 ≤ k ∧ k ≤ 6)
    (hma : ma x = nI (zaa k d)) (r : zRt) (hB : zrB b r)
    (hK : ∀ u : zRt, zrB (ztk0 t w (decide (σ.1 = 3)) k d b.1 b.2.1 b.2.2.1 b.2.2.2.1 b.2.2.2.2) u → zwp (zK K u (zb2 t) (zb2 w) (nI (zka k)) (nI (x + 1))) P) (tok : Int32) :
    zwp (fn_Ref_build_b149 tok mk ma K r.1 r.2.1 r.2.2.1 r.2.2.2.1 r.2.2.2.2.1 r.2.2.2.2.2.1 r.2.2.2.2.2.2.1 r.2.2.2.2.2.2.2.1 r.2.2.2.2.2.2.2.2.1 r.2.2.2.2.2.2.2.2.2.1 r.2.2.2.2.2.2.2.2.2.2.1 r.2.2.2.2.2.2.2.2.2.2.2.1 r.2.2.2.2.2.2.2.2.2.2.2.2.1 r.2.2.2.2.2.2.2.2.2.2.2.2.2 (zb2 t) (zb2 w) (nI x) (nI (zka k)) (zb2 (decide (σ.1 = 3)))) P := by
  obtain ⟨k1, k2, k3, k4, k10, k11⟩ := zka_k1 k hk
  obtain ⟨k5, k19, k9, k6, k7⟩ := zka_k2 k hk
  have hzl := zka_lt k hk
  have ee : ∀ m, m < 100 → (nI (zka k) = nI m ↔ zka k = m) := fun m hm => nI_inj (by omega) (by omega)
  have e1 := (ee 1 (by omega)).trans k1
  have e2 := (ee 2 (by omega)).trans k2
  have e3 := (ee 3 (by omega)).trans k3
  have e4 := (ee 4 (by omega)).trans k4
  have e10 := (ee 10 (by omega)).trans k10
  have e11 := (ee 11 (by omega)).trans k11
  have e19 := (ee 19 (by omega)).trans k19
  have e9 := (ee 9 (by omega)).trans k9
  have e6 := (ee 6 (by omega)).trans k6
  have e5 := (ee 5 (by omega)).trans k7
  obtain ⟨b1, b2, b3, b4, b5⟩ := hB
  have hin : ¬ (nI x < 0 ∨ 81 ≤ (nI x).toNatClampNeg) := nI_in (by omega) (by omega)
  have hcl : (nI x).toNatClampNeg = x := nI_clamp (by omega)
  have h161 : (k = 1 ∨ k = 2) → zwp (fn_Ref_build_b161 tok mk ma K r.1 r.2.1 r.2.2.1 r.2.2.2.1 r.2.2.2.2.1 r.2.2.2.2.2.1 r.2.2.2.2.2.2.1 r.2.2.2.2.2.2.2.1 r.2.2.2.2.2.2.2.2.1 r.2.2.2.2.2.2.2.2.2.1 r.2.2.2.2.2.2.2.2.2.2.1 r.2.2.2.2.2.2.2.2.2.2.2.1 r.2.2.2.2.2.2.2.2.2.2.2.2.1 r.2.2.2.2.2.2.2.2.2.2.2.2.2 (zb2 t) (zb2 w) (nI x) (nI (zka k))) P := by
    intro h12
    rw [z0_a h12] at hK
    unfold fn_Ref_build_b161
    refine zwp_f hin ?_
    rw [hcl, hma]
    refine zwp_seq (rp_node b1.1 (by omega) b1.2.1 (by omega) (k, d, 0, 0) rfl (by unfold zrl; rw [if_neg (by show ¬ (7 ≤ k ∧ k ≤ 12); omega)]) (by unfold zrr; rw [if_neg (by show ¬ (7 ≤ k ∧ k ≤ 12); omega), if_pos (by show k ≤ 2; omega)]) (by unfold zrh zaa; rw [if_neg (by omega), if_pos (by show k ≤ 2; omega)])) (fun u hu => ?_)
    unfold fn_Ref_build_b317
    rw [nI_add1]
    exact hK (u.1, r.2.1, r.2.2.1, u.2.1, r.2.2.2.2.1, u.2.2.1, u.2.2.2.1, u.2.2.2.2.1, u.2.2.2.2.2.1, r.2.2.2.2.2.2.2.2.2.1, r.2.2.2.2.2.2.2.2.2.2.1, u.2.2.2.2.2.2, r.2.2.2.2.2.2.2.2.2.2.2.2.1, r.2.2.2.2.2.2.2.2.2.2.2.2.2) ⟨⟨hu.1, hu.2, b1.2.2⟩, b2, b3, b4, b5⟩
  unfold fn_Ref_build_b149
  by_cases g1 : k = 1
  · exact zwp_t (e1.mpr g1) (h161 (Or.inl g1))
  refine zwp_f (fun h => g1 (e1.mp h)) ?_
  by_cases g2 : k = 2
  · exact zwp_t (e2.mpr g2) (h161 (Or.inr g2))
  refine zwp_f (fun h => g2 (e2.mp h)) ?_
  by_cases g3 : 3 ≤ k ∧ k ≤ 6
  · refine zwp_t (e3.mpr g3) (zwp_f hin ?_)
    rw [hcl, hma]
    rw [z0_b (Or.inl g3)] at hK
    refine zwp_seq (rp_waits (k, 0) b1 (by omega) (by show (3 : Int32) = nI (zka k); rw [k3.mpr g3]; rfl) (by unfold zaa zwt; dsimp only; rw [if_pos g3, if_pos g3]; rfl)) (fun u hu => ?_)
    unfold fn_Ref_build_b317
    rw [nI_add1]
    exact hK (r.1, r.2.1, r.2.2.1, r.2.2.2.1, u.1, r.2.2.2.2.2.1, r.2.2.2.2.2.2.1, r.2.2.2.2.2.2.2.1, r.2.2.2.2.2.2.2.2.1, r.2.2.2.2.2.2.2.2.2.1, r.2.2.2.2.2.2.2.2.2.2.1, r.2.2.2.2.2.2.2.2.2.2.2.1, u.2.1, u.2.2) ⟨hu, b2, b3, b4, b5⟩
  refine zwp_f (fun h => g3 (e3.mp h)) ?_
  by_cases g4 : k = 24
  · rw [z0_c g4] at hK
    refine zwp_t (e4.mpr g4) ?_
    have hst : σ.1 = 2 := by
      obtain ⟨st, dp, l, p, o⟩ := σ
      rcases zsy_cases hz with ⟨h, -⟩ | ⟨h, -⟩ | ⟨h, -⟩ | ⟨-, h, -⟩ | ⟨h, -⟩ | ⟨h, -⟩ | ⟨h, -⟩ | ⟨h, -⟩ | ⟨h, -⟩
      all_goals first | exact h | (exfalso; omega)
    obtain ⟨k', O', eO, f1, f2⟩ := q7 hst
    obtain ⟨c1, c2, c3, c4, c5⟩ := b1
    rw [eO] at c3 c4 c5 q1
    have eo : r.2.2.2.2.1 - 1 = nI O'.length := by rw [c3, List.length_cons, nI_sub1]
    rw [List.length_cons] at q1
    rw [eo, nI_clamp (by omega : O'.length < 2 ^ 31)]
    have hg := nI_in2 (c := O'.length) (N := 200) (by omega) (by omega)
    refine zwp_f hg (zwp_f hg ?_)
    rw [c5.1, show (4 : Int32) = nI 4 from rfl, nI_add]
    unfold fn_Ref_build_b317
    rw [nI_add1]
    refine hK (r.1, r.2.1, r.2.2.1, r.2.2.2.1, r.2.2.2.2.1, r.2.2.2.2.2.1, r.2.2.2.2.2.2.1, r.2.2.2.2.2.2.2.1, r.2.2.2.2.2.2.2.2.1, r.2.2.2.2.2.2.2.2.2.1, r.2.2.2.2.2.2.2.2.2.2.1, r.2.2.2.2.2.2.2.2.2.2.2.1, r.2.2.2.2.2.2.2.2.2.2.2.2.1, upd r.2.2.2.2.2.2.2.2.2.2.2.2.2 O'.length (nI (zwt k' σ.2.2.2.1 + 4))) ⟨⟨c1, c2, ?_, ?_, ?_⟩, b2, b3, b4, b5⟩
    · rw [eO]; exact c3
    · rw [eO]; exact ⟨c4.1, c4.2⟩
    · rw [eO]
      refine ⟨?_, zst_upd O' (Nat.le_refl _) c5.2⟩
      show upd _ O'.length _ O'.length = nI (zwt k' (σ.2.2.2.1 + 1))
      rw [upd_at]; congr 1
      unfold zwt; rw [if_pos ⟨f1, f2⟩, if_pos ⟨f1, f2⟩]; omega
  refine zwp_f (fun h => g4 (e4.mp h)) ?_
  by_cases g10 : k = 22
  · rw [z0_b (Or.inr g10)] at hK
    refine zwp_t (e10.mpr g10) ?_
    refine zwp_seq (rp_waits (k, 0) b1 (by omega) (by rw [g10]; rfl) (by unfold zwt; dsimp only; rw [if_neg g3]; rfl)) (fun u hu => ?_)
    unfold fn_Ref_build_b317
    rw [nI_add1]
    exact hK (r.1, r.2.1, r.2.2.1, r.2.2.2.1, u.1, r.2.2.2.2.2.1, r.2.2.2.2.2.2.1, r.2.2.2.2.2.2.2.1, r.2.2.2.2.2.2.2.2.1, r.2.2.2.2.2.2.2.2.2.1, r.2.2.2.2.2.2.2.2.2.2.1, r.2.2.2.2.2.2.2.2.2.2.2.1, u.2.1, u.2.2) ⟨hu, b2, b3, b4, b5⟩
  refine zwp_f (fun h => g10 (e10.mp h)) ?_
  have hcase : (k = 8 ∧ σ.1 = 0) ∨ ((7 ≤ k ∧ k ≤ 11) ∧ σ.1 = 3) ∨ (k = 23 ∧ σ.1 = 3 ∧ 0 < σ.2.1) ∨ (14 ≤ k ∧ k ≤ 21 ∧ σ.1 = 3 ∧ σ.2.1 = 0 ∧ (k ≠ 21 → σ.2.2.1 < 4)) := by
    obtain ⟨st, dp, l, p, o⟩ := σ
    rcases zsy_cases hz with ⟨h, -⟩ | ⟨h, -⟩ | ⟨h, -⟩ | ⟨h, -⟩ | ⟨h, h', -⟩ | ⟨h, h', -⟩ | ⟨h, h', h2, -⟩ | ⟨h, h', h2, h3, -⟩ | ⟨h, h', h2, h3, h4, -⟩
    · rcases h with ⟨h, -⟩ | h
      · exact absurd h g1
      · exact absurd h g2
    · exact absurd h g10
    · exact absurd h g3
    · exact absurd h g4
    · exact Or.inl ⟨h, h'⟩
    · exact Or.inr (Or.inl ⟨h, h'⟩)
    · exact Or.inr (Or.inr (Or.inl ⟨h, h', h2⟩))
    · exact Or.inr (Or.inr (Or.inr ⟨by omega, by omega, h', h2, fun h9 => absurd h h9⟩))
    · exact Or.inr (Or.inr (Or.inr ⟨by omega, by omega, h', h2, fun _ => h4⟩))
  by_cases g11 : k = 23
  · rw [z0_f g11] at hK
    refine zwp_t (e11.mpr g11) ?_
    have h3 : σ.1 = 3 ∧ 0 < σ.2.1 := by rcases hcase with h | h | h | h <;> omega
    have hD := q2' h3.1 (by omega)
    unfold fn_Ref_closes
    refine zwp_seq (rp_close (t := t) (w := w) zFU b.2.2.1 b.1 b.2.1 _ _ _ _ _ _ _ _ (Nat.lt_of_le_of_lt (by omega : b.2.2.1.length ≤ 200) (by decide)) b1 (by omega) (by omega) (by omega) q5 (by omega)) (fun u hu => ?_)
    unfold fn_Ref_build_b317
    rw [nI_add1]
    exact hK (u.1, r.2.1, r.2.2.1, u.2.1, u.2.2.1, u.2.2.2.1, u.2.2.2.2.1, u.2.2.2.2.2.1, u.2.2.2.2.2.2.1, r.2.2.2.2.2.2.2.2.2.1, r.2.2.2.2.2.2.2.2.2.2.1, u.2.2.2.2.2.2.2, r.2.2.2.2.2.2.2.2.2.2.2.2.1, r.2.2.2.2.2.2.2.2.2.2.2.2.2) ⟨hu, b2, b3, b4, b5⟩
  refine zwp_f (fun h => g11 (e11.mp h)) ?_
  by_cases g5 : 7 ≤ k ∧ k ≤ 11
  · refine zwp_f (fun h => k5.mp h g5) ?_
    unfold fn_Ref_operator
    -- reduceDownTo, then the operator waits
    have hop : ∀ (x1 : Int32) (m : Nat), zcom k = m → 1 ≤ m → (∀ k', k' < 25 → (3 ≤ k' ∧ k' ≤ 13 ∨ k' = 22) → ∀ t w : Bool, (fn_Ref_strength (nI (zka k')) (zb2 t) (zb2 w) < x1 ↔ ¬ m ≤ zlev t w k')) → σ.1 = 3 →
        zwp ((fn_Ref_operator_b53 r.1 r.2.2.2.1 r.2.2.2.2.1 r.2.2.2.2.2.1 r.2.2.2.2.2.2.1 r.2.2.2.2.2.2.2.1 r.2.2.2.2.2.2.2.2.1 r.2.2.2.2.2.2.2.2.2.2.2.1 r.2.2.2.2.2.2.2.2.2.2.2.2.1 r.2.2.2.2.2.2.2.2.2.2.2.2.2 (nI (zka k)) (zb2 t) (zb2 w) x1)) (fun s => zrb s.1 s.2.1 s.2.2.1 s.2.2.2.1 s.2.2.2.2.1 s.2.2.2.2.2.1 s.2.2.2.2.2.2.1 s.2.2.2.2.2.2.2.1 s.2.2.2.2.2.2.2.2.1 s.2.2.2.2.2.2.2.2.2
          (zdown (zlev t w) (zcom k) b.2.2.1 b.1 b.2.1).1 (zdown (zlev t w) (zcom k) b.2.2.1 b.1 b.2.1).2.1 ((k, 0) :: (zdown (zlev t w) (zcom k) b.2.2.1 b.1 b.2.1).2.2)) := by
      intro x1 m hm hm1 htab h3
      have hD := q2' h3 (by omega)
      rw [hm]
      obtain ⟨a1, -⟩ := zinv_down (t := t) (w := w) m hm1 hD q3 q5
      unfold fn_Ref_operator_b53 fn_Ref_reduceDownTo
      refine zwp_seq (rp_down (t := t) (w := w) _ _ _ m hm1 zFU b.2.2.1 b.1 b.2.1 _ _ _ _ _ _ _ _ (Nat.lt_of_le_of_lt (by omega : b.2.2.1.length ≤ 200) (by decide)) b1 (by omega) (by omega) (by omega) q5 (fun q O' h' => ?_)) (fun u hu => ?_)
      · obtain ⟨pre, e, -⟩ := h'
        have hq : zwk q.1 := q5 q (by rw [e]; simp)
        exact htab q.1 (zwk_r hq).2 hq t w
      · exact zwp_seq (rp_waits (k, 0) hu (by omega) rfl (by unfold zwt; dsimp only; rw [if_neg g3]; rfl)) (fun v hv => zwp_some hv)
    have hfin : ∀ u : Int32 × Int32 × Int32 × (Nat → Int32) × (Nat → Int32) × (Nat → Int32) × (Nat → Int32) × (Nat → Int32) × (Nat → Int32) × (Nat → Int32), zrb u.1 u.2.1 u.2.2.1 u.2.2.2.1 u.2.2.2.2.1 u.2.2.2.2.2.1 u.2.2.2.2.2.2.1 u.2.2.2.2.2.2.2.1 u.2.2.2.2.2.2.2.2.1 u.2.2.2.2.2.2.2.2.2 (ztk0 t w (decide (σ.1 = 3)) k d b.1 b.2.1 b.2.2.1 b.2.2.2.1 b.2.2.2.2).1 (ztk0 t w (decide (σ.1 = 3)) k d b.1 b.2.1 b.2.2.1 b.2.2.2.1 b.2.2.2.2).2.1 (ztk0 t w (decide (σ.1 = 3)) k d b.1 b.2.1 b.2.2.1 b.2.2.2.1 b.2.2.2.2).2.2.1 → (ztk0 t w (decide (σ.1 = 3)) k d b.1 b.2.1 b.2.2.1 b.2.2.2.1 b.2.2.2.2).2.2.2 = (b.2.2.2.1, b.2.2.2.2) →
        zwp (fn_Ref_build_b317 tok mk ma K u.1 r.2.1 r.2.2.1 u.2.1 u.2.2.1 u.2.2.2.1 u.2.2.2.2.1 u.2.2.2.2.2.1 u.2.2.2.2.2.2.1 r.2.2.2.2.2.2.2.2.2.1 r.2.2.2.2.2.2.2.2.2.2.1 u.2.2.2.2.2.2.2.1 u.2.2.2.2.2.2.2.2.1 u.2.2.2.2.2.2.2.2.2 (zb2 t) (zb2 w) (nI x) (nI (zka k))) P := by
      intro u hu e
      unfold fn_Ref_build_b317
      rw [nI_add1]
      refine hK (u.1, r.2.1, r.2.2.1, u.2.1, u.2.2.1, u.2.2.2.1, u.2.2.2.2.1, u.2.2.2.2.2.1, u.2.2.2.2.2.2.1, r.2.2.2.2.2.2.2.2.2.1, r.2.2.2.2.2.2.2.2.2.2.1, u.2.2.2.2.2.2.2.1, u.2.2.2.2.2.2.2.2.1, u.2.2.2.2.2.2.2.2.2) ⟨hu, ?_⟩
      rw [e]; exact ⟨b2, b3, b4, b5⟩
    by_cases hp : k = 11
    · have h3 : σ.1 = 3 := by rcases hcase with h | h | h | h <;> omega
      have hz6 : zdown (zlev t w) 6 b.2.2.1 b.1 b.2.1 = (b.1, b.2.1, b.2.2.1) := by
        cases b.2.2.1 with
        | nil => rfl
        | cons q O => unfold zdown; rw [if_neg (by have := zlev_lt t w q.1; omega)]
      have ez : ztk0 t w (decide (σ.1 = 3)) k d b.1 b.2.1 b.2.2.1 b.2.2.2.1 b.2.2.2.2 = (b.1, b.2.1, (k, 0) :: b.2.2.1, b.2.2.2.1, b.2.2.2.2) := by
        rw [z0_e g5 (decide_eq_true h3), show zcom k = 6 by unfold zcom; rw [if_neg (by omega), if_neg (by omega)], hz6]
      refine zwp_seq (Q := fun s => zrb s.1 s.2.1 s.2.2.1 s.2.2.2.1 s.2.2.2.2.1 s.2.2.2.2.2.1 s.2.2.2.2.2.2.1 s.2.2.2.2.2.2.2.1 s.2.2.2.2.2.2.2.2.1 s.2.2.2.2.2.2.2.2.2 b.1 b.2.1 ((k, 0) :: b.2.2.1)) (zwp_t (e9.mpr hp) ?_) (fun u hu => hfin u (by rw [ez]; exact hu) (by rw [ez]))
      exact zwp_seq (rp_waits (k, 0) b1 (by omega) (by show (9 : Int32) = nI (zka k); rw [hp]; rfl) (by unfold zwt; dsimp only; rw [if_neg g3]; rfl)) (fun v hv => zwp_some hv)
    · by_cases hneg : k = 8 ∧ σ.1 = 0
      · have hd0 : decide (σ.1 = 3) = false := decide_eq_false (by omega)
        have ez : ztk0 t w (decide (σ.1 = 3)) k d b.1 b.2.1 b.2.2.1 b.2.2.2.1 b.2.2.2.2 = (b.1, b.2.1, (13, 0) :: b.2.2.1, b.2.2.2.1, b.2.2.2.2) := z0_d hneg.1 hd0
        refine zwp_seq (Q := fun s => zrb s.1 s.2.1 s.2.2.1 s.2.2.2.1 s.2.2.2.2.1 s.2.2.2.2.2.1 s.2.2.2.2.2.2.1 s.2.2.2.2.2.2.2.1 s.2.2.2.2.2.2.2.2.1 s.2.2.2.2.2.2.2.2.2 b.1 b.2.1 ((13, 0) :: b.2.2.1)) (zwp_f (fun h => hp (e9.mp h)) (zwp_t (e6.mpr hneg.1) (zwp_t (by rw [hd0]; rfl) ?_))) (fun u hu => hfin u (by rw [ez]; exact hu) (by rw [ez]))
        exact zwp_seq (rp_waits (13, 0) b1 (by omega) rfl rfl) (fun v hv => zwp_some hv)
      · have h3 : σ.1 = 3 := by rcases hcase with h | h | h | h <;> omega
        have hd1 : decide (σ.1 = 3) = true := decide_eq_true h3
        have ez := z0_e (t := t) (w := w) (d := d) (nd := b.1) (D := b.2.1) (O := b.2.2.1) (S := b.2.2.2.1) (j := b.2.2.2.2) g5 hd1
        have h36 : zwp (fn_Ref_operator_b36 r.1 r.2.2.2.1 r.2.2.2.2.1 r.2.2.2.2.2.1 r.2.2.2.2.2.2.1 r.2.2.2.2.2.2.2.1 r.2.2.2.2.2.2.2.2.1 r.2.2.2.2.2.2.2.2.2.2.2.1 r.2.2.2.2.2.2.2.2.2.2.2.2.1 r.2.2.2.2.2.2.2.2.2.2.2.2.2 (nI (zka k)) (zb2 t) (zb2 w)) (fun s => zrb s.1 s.2.1 s.2.2.1 s.2.2.2.1 s.2.2.2.2.1 s.2.2.2.2.2.1 s.2.2.2.2.2.2.1 s.2.2.2.2.2.2.2.1 s.2.2.2.2.2.2.2.2.1 s.2.2.2.2.2.2.2.2.2
          (zdown (zlev t w) (zcom k) b.2.2.1 b.1 b.2.1).1 (zdown (zlev t w) (zcom k) b.2.2.1 b.1 b.2.1).2.1 ((k, 0) :: (zdown (zlev t w) (zcom k) b.2.2.1 b.1 b.2.1).2.2)) := by
          unfold fn_Ref_operator_b36 fn_Ref_operator_b48
          by_cases h78 : k = 7 ∨ k = 8
          · have hc : zcom k = 1 := by unfold zcom; rw [if_pos h78]
            have := hop 1 1 hc (by omega) st_1 h3
            by_cases h7 : k = 7
            · exact zwp_t (e5.mpr h7) this
            · exact zwp_f (fun h => h7 (e5.mp h)) (zwp_t (e6.mpr (by omega)) this)
          · have hc : zcom k = 3 := by unfold zcom; rw [if_neg h78, if_pos (by omega)]
            exact zwp_f (fun h => h78 (Or.inl (e5.mp h))) (zwp_f (fun h => h78 (Or.inr (e6.mp h))) (hop 3 3 hc (by omega) st_3 h3))
        refine zwp_seq (Q := fun s => zrb s.1 s.2.1 s.2.2.1 s.2.2.2.1 s.2.2.2.2.1 s.2.2.2.2.2.1 s.2.2.2.2.2.2.1 s.2.2.2.2.2.2.2.1 s.2.2.2.2.2.2.2.2.1 s.2.2.2.2.2.2.2.2.2
          (zdown (zlev t w) (zcom k) b.2.2.1 b.1 b.2.1).1 (zdown (zlev t w) (zcom k) b.2.2.1 b.1 b.2.1).2.1 ((k, 0) :: (zdown (zlev t w) (zcom k) b.2.2.1 b.1 b.2.1).2.2)) (zwp_f (fun h => hp (e9.mp h)) (zwp_ite (fun _ => zwp_f (by rw [hd1]; decide) h36) (fun _ => h36))) (fun u hu => hfin u (by rw [ez]; exact hu) (by rw [ez]))
  · refine zwp_t (k5.mpr g5) ?_
    have hS : 14 ≤ k ∧ k ≤ 21 ∧ σ.1 = 3 ∧ σ.2.1 = 0 ∧ (k ≠ 21 → σ.2.2.1 < 4) := by
      rcases hcase with h | h | h | h
      · omega
      · omega
      · omega
      · exact h
    have hD := q2' hS.2.2.1 (by omega)
    rw [z0_g (by omega : 14 ≤ k ∧ k ≤ 21)] at hK
    have hl4 := hok.2.1
    unfold fn_Ref_endSum
    refine zwp_seq (rp_end (t := t) (w := w) b.2.2.2.1 b.2.2.2.2 _ _ (by omega) b2 b3 zFU b.2.2.1 b.1 b.2.1 _ _ _ _ _ _ _ _ (Nat.lt_of_le_of_lt (by omega : b.2.2.1.length ≤ 200) (by decide)) b1 (by omega) hD (by omega) q5 (by omega)) (fun u hu => ?_)
    unfold fn_Ref_build_b317
    rw [nI_add1]
    by_cases g21 : k = 21
    · refine zwp_t (e19.mpr g21) ?_
      refine hK (u.1, u.2.1, r.2.2.1, u.2.2.1, u.2.2.2.1, u.2.2.2.2.1, u.2.2.2.2.2.1, u.2.2.2.2.2.2.1, u.2.2.2.2.2.2.2.1, u.2.2.2.2.2.2.2.2.1, r.2.2.2.2.2.2.2.2.2.2.1, u.2.2.2.2.2.2.2.2.2, r.2.2.2.2.2.2.2.2.2.2.2.2.1, r.2.2.2.2.2.2.2.2.2.2.2.2.2) ⟨hu.1, hu.2.1, hu.2.2, ?_⟩
      dsimp only
      rw [zrels_push, if_neg (by omega), List.append_nil]; exact ⟨b4, b5⟩
    · refine zwp_f (fun h => g21 (e19.mp h)) ?_
      have hl := hS.2.2.2.2 g21
      rw [b4, nI_add1, nI_clamp (by omega)]
      refine zwp_f (nI_in2 (by omega) (by omega)) ?_
      refine hK (u.1, u.2.1, nI ((zrels b.2.2.2.1 b.2.2.2.2).length + 1), u.2.2.1, u.2.2.2.1, u.2.2.2.2.1, u.2.2.2.2.2.1, u.2.2.2.2.2.2.1, u.2.2.2.2.2.2.2.1, u.2.2.2.2.2.2.2.2.1, upd r.2.2.2.2.2.2.2.2.2.2.1 (zrels b.2.2.2.1 b.2.2.2.2).length (nI (zka k)), u.2.2.2.2.2.2.2.2.2, r.2.2.2.2.2.2.2.2.2.2.2.2.1, r.2.2.2.2.2.2.2.2.2.2.2.2.2) ⟨hu.1, hu.2.1, hu.2.2, ?_, ?_⟩
      · dsimp only; rw [zrels_push, if_pos (by omega), List.length_append]; rfl
      · dsimp only; rw [zrels_push, if_pos (by omega)]; exact zrw_push b5 rfl
end RM
section RN
variable {t w : Bool} {mk ma : Nat → Int32} {l : List (Nat × Nat × Nat)}
theorem rp_131 {σ σ' : Nat × Nat × Nat × Nat × Nat} {i k d : Nat} {b : zBt} (K : zKt) (P : zRt → Prop) (hi : i < 80) (hinv : zinv σ i b.1 b.2.1 b.2.2.1 b.2.2.2.1) (hw : zinw w σ b.2.2.1 b.2.2.2.1 b.2.2.2.2) (hz : zsy σ k = some σ') (hk : k < 25) (hkk : k ≠ 0 ∧ k ≠ 12 ∧ k ≠ 13)
    (hma : ma i = nI (zaa k d)) (r : zRt) (hB : zrB b r)
    (hK : ∀ u : zRt, zrB (ztk t w (decide (σ.1 = 3)) k d b.1 b.2.1 b.2.2.1 b.2.2.2.1 b.2.2.2.2) u → zwp (zK K u (zb2 t) (zb2 w) (nI (zka k)) (nI (i + 1))) P) (tok : Int32) (k0 : Int32) (hk0 : k0 = 0 ↔ ¬ (1 ≤ k ∧ k ≤ 6 ∨ k = 22)) :
    zwp (fn_Ref_build_b131 tok mk ma K r.1 r.2.1 r.2.2.1 r.2.2.2.1 r.2.2.2.2.1 r.2.2.2.2.2.1 r.2.2.2.2.2.2.1 r.2.2.2.2.2.2.2.1 r.2.2.2.2.2.2.2.2.1 r.2.2.2.2.2.2.2.2.2.1 r.2.2.2.2.2.2.2.2.2.2.1 r.2.2.2.2.2.2.2.2.2.2.2.1 r.2.2.2.2.2.2.2.2.2.2.2.2.1 r.2.2.2.2.2.2.2.2.2.2.2.2.2 (zb2 t) (zb2 w) (nI i) (nI (zka k)) (zb2 (decide (σ.1 = 3))) k0) P := by
  have hJ := zjux_inv (t := t) (w := w) (k := k) hinv
  obtain ⟨g1, g2, g3, g4, g5, g6, g7, g8, g9⟩ := hinv
  unfold ztk at hK
  unfold fn_Ref_build_b131
  have hsame : zjux t w (decide (σ.1 = 3)) k b.1 b.2.1 b.2.2.1 = (b.1, b.2.1, b.2.2.1) → (σ.1 ≠ 3 ∨ 1 ≤ k ∧ k ≤ 6 ∨ k = 22 → b.2.1.length = zbn b.2.2.1) → (σ.1 = 3 → ¬ (1 ≤ k ∧ k ≤ 6 ∨ k = 22) → b.2.1.length = zbn b.2.2.1 + 1) →
      zwp (fn_Ref_build_b149 tok mk ma K r.1 r.2.1 r.2.2.1 r.2.2.2.1 r.2.2.2.2.1 r.2.2.2.2.2.1 r.2.2.2.2.2.2.1 r.2.2.2.2.2.2.2.1 r.2.2.2.2.2.2.2.2.1 r.2.2.2.2.2.2.2.2.2.1 r.2.2.2.2.2.2.2.2.2.2.1 r.2.2.2.2.2.2.2.2.2.2.2.1 r.2.2.2.2.2.2.2.2.2.2.2.2.1 r.2.2.2.2.2.2.2.2.2.2.2.2.2 (zb2 t) (zb2 w) (nI i) (nI (zka k)) (zb2 (decide (σ.1 = 3)))) P := by
    intro e h1 h2
    rw [e] at hK
    exact rp_149 K P hi rfl hz hk hkk g9 g8 hw.2.1 (by omega) h1 h2 g3 g4 g5 g6 g7 hma r hB hK tok
  by_cases h3 : σ.1 = 3
  · rw [if_pos h3] at g2
    refine zwp_f (by rw [decide_eq_true h3]; decide) ?_
    by_cases hp : 1 ≤ k ∧ k ≤ 6 ∨ k = 22
    · refine zwp_f (fun h => hk0.mp h hp) ?_
      obtain ⟨j1, j2, j3, j4, j5, j6⟩ := hJ (Or.inr hp)
      have e : zjux t w (decide (σ.1 = 3)) k b.1 b.2.1 b.2.2.1 = ((zdown (zlev t w) 4 b.2.2.1 b.1 b.2.1).1, (zdown (zlev t w) 4 b.2.2.1 b.1 b.2.1).2.1, (12, 0) :: (zdown (zlev t w) 4 b.2.2.1 b.1 b.2.1).2.2) := by
        unfold zjux; rw [if_pos ⟨decide_eq_true h3, hp⟩]
      rw [e] at j1 j2 j3 j4 j5 j6 hK
      obtain ⟨b1, b2, b3, b4, b5⟩ := hB
      refine zwp_seq (rp_jux (t := t) (w := w) b1 (by omega) g2 g3 (by omega) g5 hw.1) (fun u hu => ?_)
      exact rp_149 (b := ((zdown (zlev t w) 4 b.2.2.1 b.1 b.2.1).1, (zdown (zlev t w) 4 b.2.2.1 b.1 b.2.1).2.1, (12, 0) :: (zdown (zlev t w) 4 b.2.2.1 b.1 b.2.1).2.2, b.2.2.2.1, b.2.2.2.2)) K P hi rfl hz hk hkk g9 g8 hw.2.1 j1 (fun _ => j2) (fun _ h => absurd hp h) j3 j4 j5 j6 (fun h => absurd (h.symm.trans h3) (by decide)) hma
        (u.1, r.2.1, r.2.2.1, u.2.1, u.2.2.1, u.2.2.2.1, u.2.2.2.2.1, u.2.2.2.2.2.1, u.2.2.2.2.2.2.1, r.2.2.2.2.2.2.2.2.2.1, r.2.2.2.2.2.2.2.2.2.2.1, u.2.2.2.2.2.2.2.1, u.2.2.2.2.2.2.2.2.1, u.2.2.2.2.2.2.2.2.2) ⟨hu, b2, b3, b4, b5⟩ hK tok
    · exact zwp_t (hk0.mpr hp) (hsame (zjux_no hp _) (fun h => by rcases h with h | h; (· exact absurd h3 h); exact absurd h hp) (fun _ _ => g2))
  · rw [if_neg h3] at g2
    refine zwp_t (by rw [decide_eq_false h3]; rfl) (hsame ?_ (fun _ => g2) (fun h => absurd h h3))
    unfold zjux; rw [if_neg (fun h' => h3 (of_decide_eq_true h'.1))]
/-- the reference's tree -/
def zrtree (r : zRt) (nd : List (Nat × Nat × Nat × Nat)) (S : List (Nat × Nat)) : Prop :=
  zrt r.1 r.2.2.2.2.2.1 r.2.2.2.2.2.2.1 r.2.2.2.2.2.2.2.1 r.2.2.2.2.2.2.2.2.1 nd ∧ r.2.1 = nI S.length ∧ zrw r.2.2.2.2.2.2.2.2.2.1 (fun q => nI q.2) S ∧ ∃ R : List Nat, R = (S.map (fun q => q.1)).filter (fun k => decide (14 ≤ k) && decide (k ≤ 20)) ∧ R.length ≤ 4 ∧ r.2.2.1 = nI R.length ∧ zrw r.2.2.2.2.2.2.2.2.2.2.1 (fun k => nI (zka k)) R
theorem rp_bloop (hq : zqr mk ma l) (hl : l.length ≤ 80) (hk : ∀ q ∈ l, zkok q) : ∀ (n : Nat) (rest : List (Nat × Nat × Nat)) (i pb : Nat) (σ sf : Nat × Nat × Nat × Nat × Nat) (b : zBt) (r : zRt),
    l.drop i = rest → i ≤ l.length → rest.length < n → zinv σ i b.1 b.2.1 b.2.2.1 b.2.2.2.1 → zinw w σ b.2.2.1 b.2.2.2.1 b.2.2.2.2 → zgo σ rest = some sf → zfin sf → pb < 24 → σ.1 = zrs pb → zrB b r →
    zwp (zK (fn_Ref_build_L57 (nI l.length) mk ma n) r (zb2 t) (zb2 w) (nI pb) (nI i))
      (fun r => zrtree r (zdown (zlev t w) 1 (zbgo t w σ b rest).2.2.1 (zbgo t w σ b rest).1 (zbgo t w σ b rest).2.1).1
        ((zbgo t w σ b rest).2.2.2.1 ++ [((zbgo t w σ b rest).2.2.2.2, (zdown (zlev t w) 1 (zbgo t w σ b rest).2.2.1 (zbgo t w σ b rest).1 (zbgo t w σ b rest).2.1).2.1.getD 0 0)]))
  | 0, _, _, _, _, _, _, _, _, _, h, _, _, _, _, _, _, _ => absurd h (Nat.not_lt_zero _)
  | n + 1, rest, i, pb, σ, sf, b, r, ht, hi, hn, hinv, hw, hgo, hfin, hpb, hsp, hB => by
    show zwp (fn_Ref_build_L57 (nI l.length) mk ma (n + 1) r.1 r.2.1 r.2.2.1 r.2.2.2.1 r.2.2.2.2.1 r.2.2.2.2.2.1 r.2.2.2.2.2.2.1 r.2.2.2.2.2.2.2.1 r.2.2.2.2.2.2.2.2.1 r.2.2.2.2.2.2.2.2.2.1 r.2.2.2.2.2.2.2.2.2.2.1 r.2.2.2.2.2.2.2.2.2.2.2.1 r.2.2.2.2.2.2.2.2.2.2.2.2.1 r.2.2.2.2.2.2.2.2.2.2.2.2.2 (zb2 t) (zb2 w) (nI pb) (nI i)) _
    unfold fn_Ref_build_L57
    cases rest with
    | nil =>
      have h9 : l.length ≤ i := List.drop_eq_nil_iff.mp ht
      cases hgo
      refine zwp_t (nI_le h9 (by omega)) ?_
      obtain ⟨b1, b2, b3, b4, b5⟩ := hB
      obtain ⟨g1, g2, g3, g4, g5, g6, g7, g8, g9⟩ := hinv
      rw [if_pos hfin.1] at g2
      have h4 := g9.2.1
      unfold fn_Ref_endSum
      refine zwp_seq (rp_end (t := t) (w := w) b.2.2.2.1 b.2.2.2.2 _ _ (by omega) b2 b3 zFU b.2.2.1 b.1 b.2.1 _ _ _ _ _ _ _ _ (Nat.lt_of_le_of_lt (by omega : b.2.2.1.length ≤ 200) (by decide)) b1 (by omega) g2 (by omega) g5 (by rw [g6, hfin.2.1])) (fun u hu => zwp_some ?_)
      refine ⟨hu.1.1, hu.2.1, hu.2.2, zrels b.2.2.2.1 b.2.2.2.2, ?_, by rw [hw.2.1]; exact h4, b4, b5⟩
      unfold zrels; rw [List.map_append]; rfl
    | cons q rest =>
      have hlt : i < l.length := by
        rcases Nat.lt_or_ge i l.length with h1 | h1
        · exact h1
        · rw [List.drop_eq_nil_of_le h1] at ht; cases ht
      have hqi : l[i]? = some q := by
        have := congrArg (fun l => l[0]?) ht
        simpa [List.getElem?_drop] using this
      have hkq := hk q (List.mem_of_getElem? hqi)
      obtain ⟨s', hz, hgo'⟩ := zgo_step hgo
      have hk0 := zsy_kinds hz
      have hzl := zka_lt q.1 hkq.1
      refine zwp_f (nI_ge hlt (by omega)) (zwp_f (nI_in (by omega) (by omega)) ?_)
      rw [nI_clamp (by omega : i < 2 ^ 31), hq.1 i q hqi]
      obtain ⟨k1, k2, k3, k4, k10, k11⟩ := zka_k1 q.1 hkq.1
      have ee : ∀ m, m < 100 → (nI (zka q.1) = nI m ↔ zka q.1 = m) := fun m hm => nI_inj (by omega) (by omega)
      have eb : ∀ m, m < 100 → (nI pb = nI m ↔ pb = m) := fun m hm => nI_inj (by omega) (by omega)
      have hst := zinv_step (t := t) (w := w) (d := q.2.1) (j := b.2.2.2.2) hinv hz hkq.1
      have hstw := zinw_step (t := t) (d := q.2.1) hinv hw hz hkq.1
      have heff : s'.1 = zrs (zka q.1) := by
        obtain ⟨st, dp, lk, p, o⟩ := σ
        obtain ⟨-, -, -, e, -⟩ := zsy_eff st dp lk p o q.1 p s' hinv.2.2.2.2.2.2.2.2 hkq.1 (fun _ => rfl) hinv.2.2.2.2.2.2.2.2.2.2.1 hz
        exact e
      have hK : ∀ u : zRt, zrB (ztk t w (decide (σ.1 = 3)) q.1 q.2.1 b.1 b.2.1 b.2.2.1 b.2.2.2.1 b.2.2.2.2) u → zwp (zK (fn_Ref_build_L57 (nI l.length) mk ma n) u (zb2 t) (zb2 w) (nI (zka q.1)) (nI (i + 1))) (fun r => zrtree r (zdown (zlev t w) 1 (zbgo t w σ b (q :: rest)).2.2.1 (zbgo t w σ b (q :: rest)).1 (zbgo t w σ b (q :: rest)).2.1).1
        ((zbgo t w σ b (q :: rest)).2.2.2.1 ++ [((zbgo t w σ b (q :: rest)).2.2.2.2, (zdown (zlev t w) 1 (zbgo t w σ b (q :: rest)).2.2.1 (zbgo t w σ b (q :: rest)).1 (zbgo t w σ b (q :: rest)).2.1).2.1.getD 0 0)])) := by
        intro u hu
        have := rp_bloop hq hl hk n rest (i + 1) (zka q.1) s' sf _ u (by rw [← List.drop_drop, ht]; rfl) hlt (by simp at hn; omega) hst hstw hgo' hfin hzl heff hu
        have e : zbgo t w σ b (q :: rest) = zbgo t w s' (ztk t w (decide (σ.1 = 3)) q.1 q.2.1 b.1 b.2.1 b.2.2.1 b.2.2.2.1 b.2.2.2.2) rest := by
          rw [zbgo, hz]
        rw [e]; exact this
      have h131 := rp_131 (tok := nI l.length) (mk := mk) (ma := ma) (d := q.2.1) (fn_Ref_build_L57 (nI l.length) mk ma n) _ (by omega) hinv hw hz hkq.1 ⟨hk0, hkq.2.1, hkq.2.2⟩ (hq.2 i q hqi) r hB hK
      have h99 : ∀ c : Int32, c = zb2 (decide (σ.1 = 3)) → zwp (fn_Ref_build_b99 (nI l.length) mk ma (fn_Ref_build_L57 (nI l.length) mk ma n) r.1 r.2.1 r.2.2.1 r.2.2.2.1 r.2.2.2.2.1 r.2.2.2.2.2.1 r.2.2.2.2.2.2.1 r.2.2.2.2.2.2.2.1 r.2.2.2.2.2.2.2.2.1 r.2.2.2.2.2.2.2.2.2.1 r.2.2.2.2.2.2.2.2.2.2.1 r.2.2.2.2.2.2.2.2.2.2.2.1 r.2.2.2.2.2.2.2.2.2.2.2.2.1 r.2.2.2.2.2.2.2.2.2.2.2.2.2 (zb2 t) (zb2 w) (nI i) (nI (zka q.1)) c) (fun r => zrtree r (zdown (zlev t w) 1 (zbgo t w σ b (q :: rest)).2.2.1 (zbgo t w σ b (q :: rest)).1 (zbgo t w σ b (q :: rest)).2.1).1
        ((zbgo t w σ b (q :: rest)).2.2.2.1 ++ [((zbgo t w σ b (q :: rest)).2.2.2.2, (zdown (zlev t w) 1 (zbgo t w σ b (q :: rest)).2.2.1 (zbgo t w σ b (q :: rest)).1 (zbgo t w σ b (q :: rest)).2.1).2.1.getD 0 0)])) := by
        rintro c rfl
        unfold fn_Ref_build_b99 fn_Ref_build_b126
        have hT := fun (h : 1 ≤ q.1 ∧ q.1 ≤ 6 ∨ q.1 = 22) => h131 1 ⟨fun h' => absurd h' (by decide), fun h' => absurd h h'⟩
        by_cases c1 : q.1 = 1
        · exact zwp_t ((ee 1 (by omega)).mpr (k1.mpr c1)) (hT (by omega))
        refine zwp_f (fun h => c1 (k1.mp ((ee 1 (by omega)).mp h))) ?_
        by_cases c2 : q.1 = 2
        · exact zwp_t ((ee 2 (by omega)).mpr (k2.mpr c2)) (hT (by omega))
        refine zwp_f (fun h => c2 (k2.mp ((ee 2 (by omega)).mp h))) ?_
        by_cases c3 : 3 ≤ q.1 ∧ q.1 ≤ 6
        · exact zwp_t ((ee 3 (by omega)).mpr (k3.mpr c3)) (hT (by omega))
        refine zwp_f (fun h => c3 (k3.mp ((ee 3 (by omega)).mp h))) ?_
        by_cases c10 : q.1 = 22
        · exact zwp_t ((ee 10 (by omega)).mpr (k10.mpr c10)) (hT (by omega))
        refine zwp_f (fun h => c10 (k10.mp ((ee 10 (by omega)).mp h))) (h131 0 ⟨fun _ => by omega, fun _ => rfl⟩)
      unfold fn_Ref_build_b94
      by_cases c1 : pb = 1
      · exact zwp_t ((eb 1 (by omega)).mpr c1) (h99 1 (by rw [decide_eq_true (hsp.trans ((zrs_3 pb).mpr (Or.inl c1)))]; rfl))
      refine zwp_f (fun h => c1 ((eb 1 (by omega)).mp h)) ?_
      by_cases c2 : pb = 2
      · exact zwp_t ((eb 2 (by omega)).mpr c2) (h99 1 (by rw [decide_eq_true (hsp.trans ((zrs_3 pb).mpr (Or.inr (Or.inl c2))))]; rfl))
      refine zwp_f (fun h => c2 ((eb 2 (by omega)).mp h)) ?_
      by_cases c3 : pb = 11
      · exact zwp_t ((eb 11 (by omega)).mpr c3) (h99 1 (by rw [decide_eq_true (hsp.trans ((zrs_3 pb).mpr (Or.inr (Or.inr c3))))]; rfl))
      refine zwp_f (fun h => c3 ((eb 11 (by omega)).mp h)) (h99 0 ?_)
      rw [decide_eq_false]; · rfl
      intro h
      rcases (zrs_3 pb).mp (hsp.symm.trans h) with h | h | h
      · exact c1 h
      · exact c2 h
      · exact c3 h
/-- readings by their numbers -/
def zrt_t (rd : Nat) : Bool := decide (rd % 2 = 1)
def zrt_w (rd : Nat) : Bool := decide (2 ≤ rd)
theorem rp_build (hq : zqr mk ma l) (hf : zform l) (rd : Nat) (hrd : rd < 4) (a b c d e : Int32) (ms ml mr mw mo2 mre md mo mf : Nat → Int32) :
    zwp (fn_Ref_build (nI l.length) a b c d e mk ma ms ml mr mw mo2 mre md mo mf (nI rd)) (fun r => zrtree r (zbuild (zrt_t rd) (zrt_w rd) l).1 (zbuild (zrt_t rd) (zrt_w rd) l).2) := by
  obtain ⟨⟨sf, h1, h2⟩, h3, h4⟩ := hf
  have hgo : ∀ t w : Bool, zwp (fn_Ref_build_L57 (nI l.length) mk ma zFU 0 0 0 0 0 ms ml mr mw mo2 mre md mo mf (zb2 t) (zb2 w) 0 0) (fun r => zrtree r (zbuild t w l).1 (zbuild t w l).2) := fun t w =>
    rp_bloop (t := t) (w := w) hq h4 h3 zFU l 0 0 zs0 sf ([], [], [], [], 0) (0, 0, 0, 0, 0, ms, ml, mr, mw, mo2, mre, md, mo, mf) rfl (Nat.zero_le _) (Nat.lt_of_le_of_lt h4 (by decide)) zinv_0 ⟨fun _ => True.intro, rfl, fun h => (by cases h)⟩ h1 h2 (by decide) rfl
      ⟨⟨⟨rfl, by decide, zrw_nil, zrw_nil, zrw_nil, zrw_nil⟩, ⟨rfl, True.intro⟩, rfl, True.intro, True.intro⟩, rfl, zrw_nil, rfl, fun j a h => by
        have e : zrels [] 0 = [] := by decide
        rw [e] at h; simp at h⟩
  unfold fn_Ref_build fn_Ref_build_b12 fn_Ref_build_b25
  match rd, hrd with
  | 0, _ => exact zwp_f (by decide) (zwp_f (by decide) (hgo false false))
  | 1, _ => exact zwp_t (by decide) (zwp_f (by decide) (hgo true false))
  | 2, _ => exact zwp_f (by decide) (zwp_t (by decide) (hgo false true))
  | 3, _ => exact zwp_t (by decide) (zwp_t (by decide) (hgo true true))
  | n + 4, h => omega
end RN
