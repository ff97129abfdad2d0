/-- a world's cells where the mask says no, the other one's where it says yes -/
def zkeep : List Bool → va_W → va_W → va_W
  | true :: bs, _ :: ws, y :: ws' => y :: zkeep bs ws ws'
  | false :: bs, x :: ws, _ :: ws' => x :: zkeep bs ws ws'
  | _, _, _ => []
theorem zkeep_get : ∀ (bs : List Bool) (ws ws' : va_W), zkeep bs ws ws' = ws' → bs.length = ws.length → ws.length = ws'.length → ∀ k : Nat, bs[k]? = some false → ws'[k]? = ws[k]?
  | [], ws, ws', _, h1, h2, k, h => by simp at h
  | b :: bs, [], ws', _, h1, _, _, _ => by simp at h1
  | b :: bs, x :: ws, [], _, _, h2, _, _ => by simp at h2
  | b :: bs, x :: ws, y :: ws', he, h1, h2, k, h => by
    simp only [List.length_cons, Nat.add_right_cancel_iff] at h1 h2
    cases b with
    | true =>
      have he' : y :: zkeep bs ws ws' = y :: ws' := he
      cases k with
      | zero => simp at h
      | succ k => exact zkeep_get bs ws ws' (List.cons.inj he').2 h1 h2 k h
    | false =>
      have he' : x :: zkeep bs ws ws' = y :: ws' := he
      cases k with
      | zero => rw [(List.cons.inj he').1]; rfl
      | succ k => exact zkeep_get bs ws ws' (List.cons.inj he').2 h1 h2 k h
def zmask (bs : List Bool) (is : List Nat) : Bool := (List.range bs.length).all (fun k => !(bs.getD k false) || is.contains k)
theorem zrep_len : ∀ (is : List Nat) (w1 ws : va_W), (zrep is w1 ws).length = ws.length
  | i :: is, e :: w, ws => (zrep_len is w (ws.set i e)).trans List.length_set
  | [], [], _ => rfl
  | [], _ :: _, _ => rfl
  | _ :: _, [], _ => rfl
theorem zrep_of {is : List Nat} {w1 ws ws' : va_W} (bs : List Bool) (hl : is.length = w1.length) (hn : va_nd is = true) (hb : zmask bs is = true) (h1 : is.map (fun i => ws'[i]?) = w1.map some) (h2 : zkeep bs ws ws' = ws') (h3 : ws.length = ws'.length) (h4 : bs.length = ws.length) : zrep is w1 ws = ws' := by
  have at1 : ∀ (j i : Nat), is[j]? = some i → ∃ q, w1[j]? = some q ∧ ws'[i]? = some q := by
    intro j i hj
    have h5 : (is.map (fun i => ws'[i]?))[j]? = some (ws'[i]?) := by rw [List.getElem?_map, hj]; rfl
    rw [h1, List.getElem?_map] at h5
    cases hw : w1[j]? with
    | none => rw [hw] at h5; cases h5
    | some q => rw [hw] at h5; exact ⟨q, rfl, (Option.some.inj h5).symm⟩
  have hbd : ∀ i ∈ is, i < ws.length := by
    intro i hi
    obtain ⟨j, hj⟩ := List.getElem?_of_mem hi
    obtain ⟨q, -, h2⟩ := at1 j i hj
    rw [h3]; exact (List.getElem?_eq_some_iff.mp h2).1
  refine List.ext_getElem? fun k => ?_
  cases hz : (zrep is w1 ws)[k]? with
  | none =>
    have h6 := List.getElem?_eq_none_iff.mp hz
    rw [zrep_len] at h6
    exact (List.getElem?_eq_none (by omega)).symm
  | some q =>
    rcases zrep_get is w1 ws hl hn hbd k q hz with ⟨j, h6, h7⟩ | ⟨h6, h7⟩
    · obtain ⟨q', h8, h9⟩ := at1 j k h6
      rw [h9, ← h8, h7]
    · have hk : k < bs.length := by rw [h4]; exact (List.getElem?_eq_some_iff.mp h7).1
      have hf : bs[k]? = some false := by
        rw [List.getElem?_eq_getElem hk]
        congr 1
        have h8 := List.all_eq_true.mp hb k (List.mem_range.mpr hk)
        have h9 : is.contains k = false := by
          rw [← Bool.not_eq_true]
          exact fun hc => h6 (List.contains_iff_mem.mp hc)
        rw [h9, Bool.or_false] at h8
        have e : bs.getD k false = bs[k] := by rw [List.getD, List.getElem?_eq_getElem hk]; rfl
        rw [e] at h8
        cases hv : bs[k] with
        | false => rfl
        | true => rw [hv] at h8; cases h8
      rw [zkeep_get bs ws ws' h2 h4 h3 k hf, h7]
