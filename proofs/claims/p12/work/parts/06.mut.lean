/-! METHODS THAT WRITE INTO CELLS THAT ARE THERE, and make none -/
def mu_A (ws : va_W) : Nat → Prop := fun q => ∃ (k : Nat) (e : va_E), ws[k]? = some (q, e)
def mu_Pc (D : va_G) (cl : List vw_C) (tys : List (ClassId × FieldType)) (ws : va_W) (Ex : State → Prop) (av : List Value) : Array Value → State → Prop := fun v U => v = av.toArray ∧ va_P D cl ws U.heap ∧ va_K D cl tys U ∧ va_D (fun _ => True) ws ∧ Ex U
theorem mu_self {ws : va_W} {A : Nat → Prop} (h : va_D A ws) : va_D (mu_A ws) ws := ⟨h.1, fun k q hk => ⟨k, q.2, hk⟩⟩
theorem mu_D {A : Nat → Prop} {ws ws' : va_W} (h : ws'.map Prod.fst = ws.map Prod.fst) (hD : va_D A ws) : va_D A ws' := by
  have key : ∀ (i : Nat) (q : Nat × va_E), ws'[i]? = some q → ∃ q', ws[i]? = some q' ∧ q'.1 = q.1 := by
    intro i q hq
    have h1 : (ws'.map Prod.fst)[i]? = some q.1 := by rw [List.getElem?_map, hq]; rfl
    rw [h, List.getElem?_map] at h1
    cases h2 : ws[i]? with
    | none => rw [h2] at h1; cases h1
    | some q' =>
      rw [h2] at h1
      exact ⟨q', rfl, Option.some.inj h1⟩
  refine ⟨fun i j p q hp hq hpq => ?_, fun k q hk => ?_⟩
  · obtain ⟨p', hp', ep⟩ := key i p hp
    obtain ⟨q', hq', eq⟩ := key j q hq
    exact hD.1 i j p' q' hp' hq' (by rw [ep, eq, hpq])
  · obtain ⟨q', hq', eq⟩ := key k q hk
    have h9 := hD.2 k q' hq'
    rw [eq] at h9
    exact h9
theorem mu_free {A : Nat → Prop} {ws wc : va_W} (hD : va_D A ws) (isC : List Nat) (hC : isC.map (fun i => ws[i]?) = wc.map some) : ∀ q, mu_A wc q → A q := by
  rintro q ⟨k, e, hk⟩
  have h1 : (wc.map some)[k]? = some (some (q, e)) := by rw [List.getElem?_map, hk]; rfl
  rw [← hC, List.getElem?_map] at h1
  cases h2 : isC[k]? with
  | none => rw [h2] at h1; cases h1
  | some i =>
    rw [h2] at h1
    exact hD.2 i (q, e) (Option.some.inj h1)
def mu_src (w1 ws : va_W) (x : Nat ⊕ Nat) : Option (Nat × va_E) := match x with
  | .inl k => w1[k]?
  | .inr i => ws[i]?
/-- behind a call: what came back, each cell at its place -/
theorem mu_join {A : Nat → Prop} {D : va_G} {cl : List vw_C} {ws wc w1 ws' : va_W} {H H1 : Heap} (hP : va_P D cl ws H) (hD : va_D A ws) (isC : List Nat) (src : List (Nat ⊕ Nat)) (hC : isC.map (fun i => ws[i]?) = wc.map some)
    (hs : src.map (mu_src w1 ws) = ws'.map some) (hdis : src.all (fun x => match x with | .inl _ => true | .inr i => !(isC.contains i)) = true)
    (hk : ∀ q : Nat, q < H.size → ¬ mu_A wc q → H1[q]? = H[q]?) (hP1 : va_P D cl w1 H1) : va_P D cl ws' H1 := by
  intro i q hq
  have h1 : (ws'.map some)[i]? = some (some q) := by rw [List.getElem?_map, hq]; rfl
  rw [← hs, List.getElem?_map] at h1
  cases h2 : src[i]? with
  | none => rw [h2] at h1; cases h1
  | some x =>
    rw [h2] at h1
    have h3 : mu_src w1 ws x = some q := Option.some.inj h1
    cases x with
    | inl k => exact hP1 k q h3
    | inr j =>
      have h4 : ws[j]? = some q := h3
      have h5 : j ∉ isC := by
        have h6 := List.all_eq_true.mp hdis (.inr j) (List.mem_of_getElem? h2)
        simpa using h6
      refine (hP j q h4).kept (hk q.1 (va_at.lt (hP j q h4)) ?_)
      rintro ⟨k, e, hke⟩
      have h7 : (wc.map some)[k]? = some (some (q.1, e)) := by rw [List.getElem?_map, hke]; rfl
      rw [← hC, List.getElem?_map] at h7
      cases h8 : isC[k]? with
      | none => rw [h8] at h7; cases h7
      | some j2 =>
        rw [h8] at h7
        have h9 : ws[j2]? = some (q.1, e) := Option.some.inj h7
        have h10 := hD.1 j j2 q (q.1, e) h4 h9 rfl
        subst h10
        exact h5 (List.mem_of_getElem? h8)
theorem mu_blind {D : va_G} {cl : List vw_C} {tys : List (ClassId × FieldType)} {ws : va_W} {Ex : State → Prop} {av : List Value} (hbl : pu_bl Ex) : FrameBlind (mu_Pc D cl tys ws Ex av) := by
  intro a U g mk q
  obtain ⟨q0, qP, qK, qD, qE⟩ := q
  exact ⟨q0, qP, va_K.moved (u := U) (U := U.calling g mk a) (Vm.Alike.refl U.vm) qK, qD, hbl U (U.calling g mk a) rfl (State.WarmedH.refl U) qE⟩
section MUA
variable {s : State} {H : Heap} {C : String} {b : Addr} {As : List Value} {D : va_G} {cl : List vw_C} {tys : List (ClassId × FieldType)} {wc : va_W} {A : Nat → Prop} {Ex : State → Prop}
theorem mu_preV {ci q0 : Nat} {fs : List Value} {T : u_T} {N : Nat} (hbl : pu_bl Ex) (hK : va_K D cl tys s) (hP : va_P D cl wc H) (hD : va_D A wc) (hE : ∀ U : State, U.heap = H → s.WarmedH U.vm → Ex U) (hc : cl[ci]? = some (C, T, N)) (he : wc[q0]? = some (b, .inr (ci, fs))) : PreV s H C b (mu_Pc D cl tys wc Ex (.ref b :: As)) As :=
  ⟨mu_blind hbl, va_recv hK hP hc he, fun U hU hW => ⟨rfl, by rw [hU]; exact hP, va_K.moved hW.alike hK, hD.weaken (fun _ _ _ _ => trivial), hE U hU hW⟩⟩
theorem mu_preS (hbl : pu_bl Ex) (hK : va_K D cl tys s) (hP : va_P D cl wc H) (hD : va_D A wc) (hE : ∀ U : State, U.heap = H → s.WarmedH U.vm → Ex U) : PreS s H (mu_Pc D cl tys wc Ex As) As :=
  ⟨mu_blind hbl, fun U hU hW => ⟨rfl, by rw [hU]; exact hP, va_K.moved hW.alike hK, hD.weaken (fun _ _ _ _ => trivial), hE U hU hW⟩⟩
/-- nothing old has changed: the world stands -/
theorem tx_P {ws : va_W} {H1 : Heap} (hP : va_P D cl ws H) (hk : ∀ q, q < H.size → H1[q]? = H[q]?) : va_P D cl ws H1 := fun k q h => (hP k q h).kept (hk q.1 (va_at.lt (hP k q h)))
theorem tx_S {H0 H1 : Heap} {locs : List Loc} (hS : va_S A H0 H locs) (hz : H.size ≤ H1.size) (hk : ∀ q, q < H.size → H1[q]? = H[q]?) : va_S A H0 H1 locs :=
  ⟨Nat.le_trans hS.1 hz, fun q h1 h2 => by rw [hk q (Nat.lt_of_lt_of_le h1 hS.1)]; exact hS.2.1 q h1 h2, hS.2.2⟩
end MUA
