/-! The words of every contract: a world, the nest's links, the literals. -/
abbrev zTY (cI cJ cC : ClassId) : List (ClassId × FieldType) := [(cI, .int), (cJ, .long), (cC, .char)]
def zM : List (String × Nat × MethodName × String) := [(RX11, 24, yX8_init, RX11), (RX11, 31, yX7_init, RX11), (RX11, 38, yX4_init, RX11), (RX11, 45, yX6_init, RX11), (RX11, 52, yX2_init, RX11), (RX0, 11, yX9_init, RX11), (RX0, 74, yX11_startsPower, RX11), (RX0, 88, yX11_isFunction, RX11), (RX0, 94, yX11_isOperator, RX11), (RX0, 100, yX11_startsSum, RX11), (RX0, 116, yX11_isBinary, RX11), (RX2, 55, yX11_startsLink, RX11), (RX4, 3, yX10_init, RX11), (RX4, 26, yX11_isBinary, RX11), (RX4, 34, yX11_isFunction, RX11), (RX4, 37, yX11_symbolOf, RX11), (RX6, 3, yX10_init, RX11), (RX6, 18, yX11_isBinaryOrNegation, RX11), (RX6, 34, yX11_isFunction, RX11), (RX6, 37, yX11_symbolOf, RX11), (RX6, 55, yX11_wordOf, RX11), (RX7, 39, yX11_startsPower, RX11), (RX7, 48, yX11_isFunction, RX11), (RX7, 54, yX11_isOperator, RX11), (RX7, 57, yX11_startsLink, RX11), (RX8, 49, yX11_symbolOf, RX11), (RX9, 48, yX11_startsLink, RX11)]
def zDc : List MethodName := [⟨"NotationParser$Writer", "write", "(LNotationParser$Tree;LNotationParser$CharRow;)V"⟩, ⟨"NotationParser$Writer", "writeBetween", "(ILNotationParser$CharRow;)V"⟩, ⟨"NotationParser$Writer", "writeStart", "(LNotationParser$Tree;IZLNotationParser$CharRow;)V"⟩, ⟨"NotationParser$Writer", "writeEnd", "(LNotationParser$Tree;IZLNotationParser$CharRow;)V"⟩]
abbrev zNs : Nat := 38
def zStr : List (String × Nat × String) := [(RX11, 188, "abs"), (RX11, 190, "sgn"), (RX11, 192, "sqr"), (RX11, 194, "dbl"), (RX11, 196, "+"), (RX11, 198, "-"), (RX11, 200, "*"), (RX11, 202, "/"), (RX11, 204, "^"), (RX11, 206, "="), (RX11, 208, "<"), (RX11, 210, ">"), (RX11, 212, "<="), (RX11, 214, ">="), (RX11, 216, "!="), (RX11, 218, ":"), (RX11, 220, ".."), (RX11, 222, ""), (RX11, 224, "plus"), (RX11, 226, "minus"), (RX11, 228, "times"), (RX11, 230, "over"), (RX11, 232, "to"), (RX11, 234, "by"), (RX11, 236, "equals"), (RX11, 238, "below"), (RX11, 240, "above"), (RX11, 242, "upto"), (RX11, 244, "downto"), (RX11, 246, "unlike"), (RX11, 248, "from"), (RX4, 18, "(-"), (RX6, 22, ""), (RX6, 24, "open "), (RX6, 32, "minus "), (RX6, 41, " prime"), (RX6, 43, " of "), (RX6, 58, " close")]
def zByt : List (List Int32) := [[97, 98, 115], [115, 103, 110], [115, 113, 114], [100, 98, 108], [43], [45], [42], [47], [94], [61], [60], [62], [60, 61], [62, 61], [33, 61], [58], [46, 46], [], [112, 108, 117, 115], [109, 105, 110, 117, 115], [116, 105, 109, 101, 115], [111, 118, 101, 114], [116, 111], [98, 121], [101, 113, 117, 97, 108, 115], [98, 101, 108, 111, 119], [97, 98, 111, 118, 101], [117, 112, 116, 111], [100, 111, 119, 110, 116, 111], [117, 110, 108, 105, 107, 101], [102, 114, 111, 109], [40, 45], [], [111, 112, 101, 110, 32], [109, 105, 110, 117, 115, 32], [32, 112, 114, 105, 109, 101], [32, 111, 102, 32], [32, 99, 108, 111, 115, 101]]
def zlen (i : Nat) : Nat := (zByt.getD i []).length
def zch (i k : Nat) : Int32 := (zByt.getD i []).getD k 0
/-- words that the printed lists lack: an inherited static method called by a subclass's name -/
def zE : List Cond := [.methodLink RX4 41 ⟨RX4, "writeLeaf", "(IILNotationParser$CharRow;)V"⟩, .sameMethod RX4 RX10 "writeLeaf" "(IILNotationParser$CharRow;)V", .methodLink RX6 45 ⟨RX6, "writeLeaf", "(IILNotationParser$CharRow;)V"⟩, .sameMethod RX6 RX10 "writeLeaf" "(IILNotationParser$CharRow;)V", .static yX10_writeLeaf, .initialized RX10] ++ wsX10_writeLeaf
theorem zE_good : zE.all goodWord = true := by decide +kernel
theorem zE_tab : zE.all (fun w => w.onTables) = true := by decide +kernel
/-- the literals' cells: objects of String with coder 0 and a row of bytes -/
def zS (adK adV : Nat → Nat) (A : Nat → Prop) (U : State) (H : Heap) : Prop :=
  ∀ i : Nat, i < zNs → va_O "java/lang/String" (adK i) A U H ∧ va_OF "java/lang/String" "coder" "B" (.int 0) (adK i) A U H ∧ va_OF "java/lang/String" "value" "[B" (.ref (adV i)) (adK i) A U H ∧ va_T .byte (adV i) (zlen i) (fun j => .int (zch i j)) A U H
theorem zS.moved {adK adV : Nat → Nat} {A : Nat → Prop} {u U : State} {H : Heap} (hvm : u.vm.Alike U.vm) (h : zS adK adV A u H) : zS adK adV A U H :=
  fun i hi => ⟨va_O.moved hvm (h i hi).1, va_OF.moved hvm (h i hi).2.1, va_OF.moved hvm (h i hi).2.2.1, va_T.moved hvm (h i hi).2.2.2⟩
theorem zS.kept {adK adV : Nat → Nat} {A : Nat → Prop} {U : State} {H H1 : Heap} (h : zS adK adV A U H) (hq : ∀ a : Nat, a < H.size → ¬ A a → H1[a]? = H[a]?) : zS adK adV A U H1 :=
  fun i hi => ⟨(h i hi).1.kept hq, (h i hi).2.1.kept hq, (h i hi).2.2.1.kept hq, (h i hi).2.2.2.kept hq⟩
theorem zS.narrow {adK adV : Nat → Nat} {A B : Nat → Prop} {U : State} {H : Heap} (h : zS adK adV A U H) (hAB : ∀ q, B q → A q) : zS adK adV B U H :=
  fun i hi => ⟨(h i hi).1.narrow hAB, (h i hi).2.1.narrow hAB, (h i hi).2.2.1.narrow hAB, (h i hi).2.2.2.narrow hAB⟩
/-- what every method takes as given beside its world: links of nest mates, declared abstract methods, literals, two statics of the JDK -/
def zX (adK adV : Nat → Nat) (A : Nat → Prop) (U : State) : Prop :=
  (∀ q ∈ zM, va_Nw (.methodLinkNest q.1 q.2.1 q.2.2.1 q.2.2.2) U) ∧ (∀ q ∈ zDc, va_Nw (.declares q) U) ∧ (∀ (i : Nat) (q : String × Nat × String), zStr[i]? = some q → vk_R q.1 q.2.1 q.2.2 (adK i) U) ∧ zS adK adV A U U.heap ∧
  va_Z "java/lang/String" "COMPACT_STRINGS" "Z" (.int 1) A U U.heap ∧ va_Zq "jdk/internal/util/Preconditions" "SIOOBE_FORMATTER" "Ljava/util/function/BiFunction;" A U U.heap ∧ ∀ w ∈ zE, va_Nw w U
theorem zX.call {adK adV : Nat → Nat} {A A' : Nat → Prop} {s U : State} {H : Heap} {locs : List Loc} (h : zX adK adV A s) (hS : va_S A s.heap H locs) (hF : ∀ q, A' q → A q) (hU : U.heap = H) (hW : s.WarmedH U.vm) : zX adK adV A' U := by
  obtain ⟨h1, h2, h3, h4, h5, h6, h7⟩ := h
  subst hU
  exact ⟨fun q hq => va_Nw.warmM hW (h1 q hq), fun q hq => va_Nw.warmD hW (h2 q hq), fun i q hq => vk_R.warm hW (h3 i q hq), (((h4.kept hS.2.1).narrow hF).moved hW.alike), (((h5.kept hS.2.1).narrow hF).moved hW.alike), (((h6.kept hS.2.1).narrow hF).moved hW.alike), fun w hw => word_at hW (good_of_word (List.all_eq_true.mp zE_good w hw)) (h7 w hw)⟩
theorem zX.blind {adK adV : Nat → Nat} {A : Nat → Prop} {U : State} (g : JFrame) (mk : MethodId) (a : Array Value) (h : zX adK adV A U) : zX adK adV A (U.calling g mk a) := by
  obtain ⟨h1, h2, h3, h4, h5, h6, h7⟩ := h
  exact ⟨fun q hq => va_Nw.same rfl (u := U) rfl (h1 q hq), fun q hq => va_Nw.same rfl (u := U) rfl (h2 q hq), fun i q hq => vk_R.same (u := U) rfl (h3 i q hq), zS.moved (u := U) (Vm.Alike.refl U.vm) h4, va_Z.moved (u := U) (Vm.Alike.refl U.vm) h5, va_Zq.moved (u := U) (Vm.Alike.refl U.vm) h6, fun w hw => va_Nw.same (List.all_eq_true.mp zE_tab w hw) (u := U) rfl (h7 w hw)⟩
/-- a method's start -/
def zP (D : va_G) (cI cJ cC : ClassId) (adK adV : Nat → Nat) (av : List Value) (sz : Nat) (ws : va_W) : Array Value → State → Prop :=
  va_Pc av (fun U => U.heap.size = sz ∧ va_P D vwCl ws U.heap ∧ va_K D vwCl (zTY cI cJ cC) U ∧ va_D (fun _ => True) ws ∧ zX adK adV (va_A ws sz) U)
/-- the world behind it -/
def zB (D : va_G) (cI cJ cC : ClassId) (A : Nat → Prop) (ws : va_W) (t : State) : Prop := va_P D vwCl ws t.heap ∧ va_K D vwCl (zTY cI cJ cC) t ∧ va_D A ws
def zQi (D : va_G) (cI cJ cC : ClassId) (r : Int32) (ws : va_W) (A : Nat → Prop) : Array Value → State → Outcome → State → Prop := va_Qi (fun r0 (_ : Unit) => r0 = r) (fun _ t => zB D cI cJ cC A ws t) A
def zQl (D : va_G) (cI cJ cC : ClassId) (r : Int64) (ws : va_W) (A : Nat → Prop) : Array Value → State → Outcome → State → Prop := va_Ql (fun r0 (_ : Unit) => r0 = r) (fun _ t => zB D cI cJ cC A ws t) A
def zQv (D : va_G) (cI cJ cC : ClassId) (ws : va_W) (A : Nat → Prop) : Array Value → State → Outcome → State → Prop := va_Qv (fun (_ : Unit) => True) (fun _ t => zB D cI cJ cC A ws t) A
def zQr (D : va_G) (cI cJ cC : ClassId) (r : Nat) (ws : va_W) (A : Nat → Prop) : Array Value → State → Outcome → State → Prop := va_Qr (fun (_ : Unit) => True) (fun _ a t => a = r ∧ zB D cI cJ cC A ws t) A
theorem zblind {D : va_G} {cI cJ cC : ClassId} {adK adV : Nat → Nat} {av : List Value} {sz : Nat} {ws : va_W} : FrameBlind (zP D cI cJ cC adK adV av sz ws) := by
  intro a U g mk q
  obtain ⟨q0, q1, qP, qK, qD, qX⟩ := q
  exact ⟨q0, q1, qP, va_K.moved (u := U) (U := U.calling g mk a) (Vm.Alike.refl U.vm) qK, qD, zX.blind g mk a qX⟩
theorem zpre {D : va_G} {cI cJ cC : ClassId} {adK adV : Nat → Nat} {av : List Value} {wc : va_W} {A : Nat → Prop} {s : State} {H : Heap} {locs : List Loc} (hX : zX adK adV A s) (hS : va_S A s.heap H locs) (hF : ∀ q, va_A wc H.size q → A q) (hP : va_P D vwCl wc H) (hK : va_K D vwCl (zTY cI cJ cC) s) (hD : va_D A wc) :
    ∀ U : State, U.heap = H → s.WarmedH U.vm → zP D cI cJ cC adK adV av H.size wc av.toArray U :=
  fun U hU hW => ⟨rfl, by rw [hU], by rw [hU]; exact hP, va_K.moved hW.alike hK, hD.weaken (fun _ _ _ _ => trivial), hX.call hS hF hU hW⟩
/-- a world with some of its cells changed -/
def zrep : List Nat → va_W → va_W → va_W
  | i :: is, e :: w, ws => zrep is w (ws.set i e)
  | _, _, ws => ws
theorem zrep_get : ∀ (is : List Nat) (w1 ws : va_W), is.length = w1.length → va_nd is = true → (∀ i ∈ is, i < ws.length) → ∀ (k : Nat) (q : Nat × va_E), (zrep is w1 ws)[k]? = some q → (∃ j : Nat, is[j]? = some k ∧ w1[j]? = some q) ∨ (k ∉ is ∧ ws[k]? = some q)
  | [], [], ws, _, _, _, k, q, h => Or.inr ⟨List.not_mem_nil, h⟩
  | i :: is, e :: w, ws, hl, hn, hb, k, q, h => by
    simp only [va_nd, Bool.and_eq_true, decide_eq_true_eq] at hn
    have hi : i < ws.length := hb i List.mem_cons_self
    rcases zrep_get is w (ws.set i e) (by simpa using hl) hn.2 (fun j hj => by rw [List.length_set]; exact hb j (List.mem_cons_of_mem _ hj)) k q h with ⟨j, h1, h2⟩ | ⟨h1, h2⟩
    · exact Or.inl ⟨j + 1, by simpa using h1, by simpa using h2⟩
    · by_cases hk : k = i
      · subst hk
        rw [List.getElem?_set_self hi] at h2
        exact Or.inl ⟨0, rfl, by simpa using h2⟩
      · rw [List.getElem?_set_ne (Ne.symm hk)] at h2
        refine Or.inr ⟨fun hm => ?_, h2⟩
        rcases List.mem_cons.mp hm with hm | hm
        · exact hk hm
        · exact h1 hm
theorem zrep_P {A0 : Nat → Prop} {D : va_G} {cl : List vw_C} {ws wc w1 : va_W} {H H1 : Heap} (hP : va_P D cl ws H) (hD : va_D A0 ws) (is : List Nat) (hC : is.map (fun i => ws[i]?) = wc.map some) (hn : va_nd is = true) (ha : w1.map Prod.fst = wc.map Prod.fst)
    (hk : ∀ q : Nat, q < H.size → ¬ va_A wc H.size q → H1[q]? = H[q]?) (hP1 : va_P D cl w1 H1) : va_P D cl (zrep is w1 ws) H1 ∧ va_D A0 (zrep is w1 ws) := by
  have hlw : w1.length = wc.length := by have := congrArg List.length ha; simpa using this
  have hlc : is.length = wc.length := by have := congrArg List.length hC; simpa using this
  have hl : is.length = w1.length := hlc.trans hlw.symm
  have at' : ∀ (j i : Nat), is[j]? = some i → ∃ q, wc[j]? = some q ∧ ws[i]? = some q := by
    intro j i hj
    have h1 : (is.map (fun i => ws[i]?))[j]? = some (ws[i]?) := by rw [List.getElem?_map, hj]; rfl
    rw [hC, List.getElem?_map] at h1
    cases hw : wc[j]? with
    | none => rw [hw] at h1; cases h1
    | some q => rw [hw] at h1; exact ⟨q, rfl, (Option.some.inj h1).symm⟩
  have hb : ∀ i ∈ is, i < ws.length := by
    intro i hi
    obtain ⟨j, hj⟩ := List.getElem?_of_mem hi
    obtain ⟨q, -, h2⟩ := at' j i hj
    exact (List.getElem?_eq_some_iff.mp h2).1
  have fst' : ∀ (j : Nat) (q q1 : Nat × va_E), wc[j]? = some q → w1[j]? = some q1 → q1.1 = q.1 := by
    intro j q q1 h1 h2
    have e1 : (w1.map Prod.fst)[j]? = some q1.1 := by rw [List.getElem?_map, h2]; rfl
    have e2 : (wc.map Prod.fst)[j]? = some q.1 := by rw [List.getElem?_map, h1]; rfl
    rw [ha, e2] at e1
    exact (Option.some.inj e1).symm
  have key : ∀ (k : Nat) (q : Nat × va_E), (zrep is w1 ws)[k]? = some q → ∃ q0, ws[k]? = some q0 ∧ q0.1 = q.1 ∧ va_at D cl q H1 := by
    intro k q h
    rcases zrep_get is w1 ws hl hn hb k q h with ⟨j, h1, h2⟩ | ⟨h1, h2⟩
    · obtain ⟨q0, h3, h4⟩ := at' j k h1
      exact ⟨q0, h4, (fst' j q0 q h3 h2).symm, hP1 j q h2⟩
    · refine ⟨q, h2, rfl, (hP k q h2).kept (hk q.1 (hP k q h2).lt ?_)⟩
      rintro (⟨j, e, h3⟩ | h3)
      · have hj : j < is.length := by rw [hlc]; exact (List.getElem?_eq_some_iff.mp h3).1
        obtain ⟨q0, h4, h5⟩ := at' j is[j] (List.getElem?_eq_getElem hj)
        rw [h3] at h4
        cases h4
        have := hD.1 k is[j] q (q.1, e) h2 h5 rfl
        exact h1 (this ▸ List.getElem_mem hj)
      · exact absurd (hP k q h2).lt (Nat.not_lt.mpr h3)
  refine ⟨fun k q h => (key k q h).choose_spec.2.2, fun i j x y hi hj hxy => ?_, fun k q h => ?_⟩
  · obtain ⟨x0, h1, h2, -⟩ := key i x hi
    obtain ⟨y0, h3, h4, -⟩ := key j y hj
    exact hD.1 i j x0 y0 h1 h3 (h2.trans (hxy.trans h4.symm))
  · obtain ⟨q0, h1, h2, -⟩ := key k q h
    rw [← h2]
    exact hD.2 k q0 h1
theorem zcut {A : Nat → Prop} {D : va_G} {ws wc : va_W} {H0 H : Heap} {locs : List Loc} (hP : va_P D vwCl ws H) (hD : va_D A ws) (hS : va_S A H0 H locs) (hA : ∀ q, H0.size ≤ q → A q) (is : List Nat) (h1 : is.filterMap (fun i => ws[i]?) = wc) (h2 : is.map (fun i => ws[i]?) = wc.map some) (hn : va_nd is = true) :
    va_P D vwCl wc H ∧ va_D A wc ∧ ∀ q, va_A wc H.size q → A q := ⟨hP.sub is h1, hD.sub is hn h2, va_free hD hS hA is h2⟩
theorem zrecvS {adK adV : Nat → Nat} {A : Nat → Prop} {s : State} {H : Heap} {locs : List Loc} {i : Nat} (hX : zX adK adV A s) (hS : va_S A s.heap H locs) (hi : i < zNs) : ∃ cell : Cell, H[adK i]? = some cell ∧ cell.vm.isStatics = false ∧ s.vm.findClass "java/lang/String" = some cell.cls := by
  obtain ⟨cell, h1, h2, h3, -⟩ := ((hX.2.2.2.1 i hi).1.kept hS.2.1)
  exact ⟨cell, h1, h2, h3⟩
theorem zlen_small : ∀ i, i < zNs → zlen i < 2 ^ 31 ∧ ∀ j, j < zlen i → zch i j &&& 255 = zch i j := by decide +kernel
section ZC
variable {p : Program} {l : Launch} {e : Env} {R : Room} {s : State} {m : MethodId} {args : Array Value} {below : List Frame} {meth : Method} {c : Code} {H : Heap} {locs : List Loc} {cells slots : Nat} {Q : State → Prop}
variable {pc : Nat} {ls : Array Slot} {rest st0 : List Value} {a : Array Value} {A : Nat → Prop} {mc ms : Nat} {D : va_G} {cI cJ cC : ClassId} {ws ws' wc w1 : va_W}
/-- a call behind which the callee's cells hold w1 -/
theorem zc_i {r : Int32} (hr : va_Run p l e R s m args below meth c H locs cells slots mc ms (F0 m pc ls st0) rest (zQi D cI cJ cC r w1 (va_A wc H.size) a) (va_A wc H.size)) (hP : va_P D vwCl ws H) (hD : va_D A ws) (hS : va_S A s.heap H locs) (hF : ∀ q, va_A wc H.size q → A q)
    (is : List Nat) (hC : is.map (fun i => ws[i]?) = wc.map some) (hn : va_nd is = true) (ha : w1.map Prod.fst = wc.map Prod.fst) (hw : zrep is w1 ws = ws')
    (kk : ∀ (H1 : Heap) (locs1 : List Loc), va_P D vwCl ws' H1 → va_D A ws' → va_S A s.heap H1 locs1 → W p l e R s m args below meth c H1 locs1 (cells + mc) (slots + ms) Q (F0 m (pc + 3) ls (.int r :: rest))) : W p l e R s m args below meth c H locs cells slots Q (F0 m pc ls st0) := by
  refine va_calli hr hS (fun q _ h => hF q h) hF (fun r0 u t H1 locs1 ht hvm hp hB hz hk hS1 => ?_)
  cases hp
  obtain ⟨h1, h2, h3⟩ := hB
  rw [ht] at h1
  obtain ⟨g1, g2⟩ := zrep_P hP hD is hC hn ha hk h1
  rw [hw] at g1 g2
  exact kk H1 locs1 g1 g2 hS1
theorem zc_l {r : Int64} (hr : va_Run p l e R s m args below meth c H locs cells slots mc ms (F0 m pc ls st0) rest (zQl D cI cJ cC r w1 (va_A wc H.size) a) (va_A wc H.size)) (hP : va_P D vwCl ws H) (hD : va_D A ws) (hS : va_S A s.heap H locs) (hF : ∀ q, va_A wc H.size q → A q)
    (is : List Nat) (hC : is.map (fun i => ws[i]?) = wc.map some) (hn : va_nd is = true) (ha : w1.map Prod.fst = wc.map Prod.fst) (hw : zrep is w1 ws = ws')
    (kk : ∀ (H1 : Heap) (locs1 : List Loc), va_P D vwCl ws' H1 → va_D A ws' → va_S A s.heap H1 locs1 → W p l e R s m args below meth c H1 locs1 (cells + mc) (slots + ms) Q (F0 m (pc + 3) ls (.long r :: rest))) : W p l e R s m args below meth c H locs cells slots Q (F0 m pc ls st0) := by
  refine va_calll hr hS (fun q _ h => hF q h) hF (fun r0 u t H1 locs1 ht hvm hp hB hz hk hS1 => ?_)
  cases hp
  obtain ⟨h1, h2, h3⟩ := hB
  rw [ht] at h1
  obtain ⟨g1, g2⟩ := zrep_P hP hD is hC hn ha hk h1
  rw [hw] at g1 g2
  exact kk H1 locs1 g1 g2 hS1
theorem zc_v (hr : va_Run p l e R s m args below meth c H locs cells slots mc ms (F0 m pc ls st0) rest (zQv D cI cJ cC w1 (va_A wc H.size) a) (va_A wc H.size)) (hP : va_P D vwCl ws H) (hD : va_D A ws) (hS : va_S A s.heap H locs) (hF : ∀ q, va_A wc H.size q → A q)
    (is : List Nat) (hC : is.map (fun i => ws[i]?) = wc.map some) (hn : va_nd is = true) (ha : w1.map Prod.fst = wc.map Prod.fst) (hw : zrep is w1 ws = ws')
    (kk : ∀ (H1 : Heap) (locs1 : List Loc), va_P D vwCl ws' H1 → va_D A ws' → va_S A s.heap H1 locs1 → W p l e R s m args below meth c H1 locs1 (cells + mc) (slots + ms) Q (F0 m (pc + 3) ls rest)) : W p l e R s m args below meth c H locs cells slots Q (F0 m pc ls st0) := by
  refine va_callv hr hS (fun q _ h => hF q h) hF (fun u t H1 locs1 ht hvm hp hB hz hk hS1 => ?_)
  obtain ⟨h1, h2, h3⟩ := hB
  rw [ht] at h1
  obtain ⟨g1, g2⟩ := zrep_P hP hD is hC hn ha hk h1
  rw [hw] at g1 g2
  exact kk H1 locs1 g1 g2 hS1
theorem zc_r {r : Nat} (hr : va_Run p l e R s m args below meth c H locs cells slots mc ms (F0 m pc ls st0) rest (zQr D cI cJ cC r w1 (va_A wc H.size) a) (va_A wc H.size)) (hP : va_P D vwCl ws H) (hD : va_D A ws) (hS : va_S A s.heap H locs) (hF : ∀ q, va_A wc H.size q → A q)
    (is : List Nat) (hC : is.map (fun i => ws[i]?) = wc.map some) (hn : va_nd is = true) (ha : w1.map Prod.fst = wc.map Prod.fst) (hw : zrep is w1 ws = ws')
    (kk : ∀ (H1 : Heap) (locs1 : List Loc), va_P D vwCl ws' H1 → va_D A ws' → va_S A s.heap H1 locs1 → W p l e R s m args below meth c H1 locs1 (cells + mc) (slots + ms) Q (F0 m (pc + 3) ls (.ref r :: rest))) : W p l e R s m args below meth c H locs cells slots Q (F0 m pc ls st0) := by
  refine va_callr hr hS (fun q _ h => hF q h) hF (fun u ra t H1 locs1 ht hvm hp hB hz hk hS1 => ?_)
  obtain ⟨e1, h1, h2, h3⟩ := hB
  cases e1
  rw [ht] at h1
  obtain ⟨g1, g2⟩ := zrep_P hP hD is hC hn ha hk h1
  rw [hw] at g1 g2
  exact kk H1 locs1 g1 g2 hS1
end ZC
/-! what the walks read out of a model's equation -/
theorem z_t {α : Type} {c : Prop} [Decidable c] {a b o : α} (h : c) (hM : (if c then a else b) = o) : a = o := by rw [if_pos h] at hM; exact hM
theorem z_f {α : Type} {c : Prop} [Decidable c] {a b o : α} (h : ¬ c) (hM : (if c then a else b) = o) : b = o := by rw [if_neg h] at hM; exact hM
theorem z_b {α β : Type} {x : Option α} {f : α → Option β} {r : β} (hM : x.bind f = some r) : ∃ q, x = some q ∧ f q = some r := by
  cases x with
  | none => cases hM
  | some q => exact ⟨q, rfl, hM⟩
/-- a check that the machine makes: none where it throws -/
theorem z_g {β : Type} {c : Prop} [Decidable c] {a : Option β} {r : β} (hM : (if c then none else a) = some r) : ¬ c ∧ a = some r := by
  by_cases h : c
  · rw [if_pos h] at hM; cases hM
  · rw [if_neg h] at hM; exact ⟨h, hM⟩
theorem z_n {β : Type} {r : β} (hM : (none : Option β) = some r) {P : Prop} : P := by cases hM
theorem z_bool {x : Int32} (h : ¬ ¬ (x = 0 ∨ x = 1)) : narrow .boolean (.int x) = .int x := by
  rcases Decidable.not_not.mp h with rfl | rfl <;> rfl
theorem z_boolF {x : Int32} (h : ¬ ¬ (x = 0 ∨ x = 1)) : fits .boolean (.int x) = true := by
  rcases Decidable.not_not.mp h with rfl | rfl <;> rfl
/-- a switch's default -/
theorem z_out {x : Int32} {lo : Int} (n : Nat) (h : ∀ k : Nat, k < n → x ≠ Int32.ofInt (lo + k)) : x.toInt < lo ∨ lo + (n : Int) - 1 < x.toInt := by
  rcases Int.lt_or_le x.toInt lo with h1 | h1
  · exact Or.inl h1
  · rcases Int.lt_or_le (lo + (n : Int) - 1) x.toInt with h2 | h2
    · exact Or.inr h2
    · exfalso
      refine h (x.toInt - lo).toNat (by omega) ?_
      rw [show lo + (((x.toInt - lo).toNat : Nat) : Int) = x.toInt by omega, Int32.ofInt_toInt]
/-- fuel for every loop -/
def zFU : Nat := 100000

