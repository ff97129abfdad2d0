/-! A method that reads the script: its start holds the script too. -/
def zPs (D : va_G) (cI cJ cC : ClassId) (adK adV : Nat → Nat) (sb sL : Nat) (sx : Nat → Int32) (av : List Value) (sz : Nat) (ws : va_W) : Array Value → State → Prop :=
  va_Pc av (fun U => U.heap.size = sz ∧ va_P D vwCl ws U.heap ∧ va_K D vwCl (zTY cI cJ cC) U ∧ va_D (fun _ => True) ws ∧ zX adK adV (va_A ws sz) U ∧ va_X sb sL sx U U.heap ∧ sb < U.heap.size ∧ ¬ va_A ws sz sb)
theorem zblinds {D : va_G} {cI cJ cC : ClassId} {adK adV : Nat → Nat} {sb sL : Nat} {sx : Nat → Int32} {av : List Value} {sz : Nat} {ws : va_W} : FrameBlind (zPs D cI cJ cC adK adV sb sL sx av sz ws) := by
  intro a U g mk q
  obtain ⟨q0, q1, qP, qK, qD, qX, qS, qb, qA⟩ := q
  exact ⟨q0, q1, qP, va_K.moved (u := U) (U := U.calling g mk a) (Vm.Alike.refl U.vm) qK, qD, zX.blind g mk a qX, va_X.moved (u := U) (U := U.calling g mk a) (Vm.Alike.refl U.vm) qS, qb, qA⟩
theorem zpres {D : va_G} {cI cJ cC : ClassId} {adK adV : Nat → Nat} {sb sL : Nat} {sx : Nat → Int32} {av : List Value} {wc : va_W} {A : Nat → Prop} {s : State} {H : Heap} {locs : List Loc} (hX : zX adK adV A s) (hS : va_S A s.heap H locs) (hF : ∀ q, va_A wc H.size q → A q) (hP : va_P D vwCl wc H) (hK : va_K D vwCl (zTY cI cJ cC) s) (hD : va_D A wc)
    (hXs : va_X sb sL sx s s.heap) (hbl : sb < s.heap.size) (hbA : ¬ A sb) :
    ∀ U : State, U.heap = H → s.WarmedH U.vm → zPs D cI cJ cC adK adV sb sL sx av H.size wc av.toArray U := by
  intro U hU hW
  subst hU
  exact ⟨rfl, rfl, hP, va_K.moved hW.alike hK, hD.weaken (fun _ _ _ _ => trivial), hX.call hS hF rfl hW, (hXs.kept (hS.2.1 sb hbl hbA)).moved hW.alike, Nat.lt_of_lt_of_le hbl hS.1, fun h => hbA (hF sb h)⟩
/-- an index that is written out -/
theorem z_lidx {i : Int32} {n : Nat} (h : ¬ (i < 0 ∨ n ≤ i.toNatClampNeg)) : vp_in i n := h
