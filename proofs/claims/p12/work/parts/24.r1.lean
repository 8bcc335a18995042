/-! reading a table: both sides step by step. w: how many characters; cc p: the character's code at p, 0 behind the end -/
def cc (gT : Nat → Int32) (w p : Nat) : Nat := if p < w then (gT p).toNatClampNeg else 0
def tx_ok (xl gT : Nat → Int32) (w : Nat) : Prop := w ≤ 300 ∧ ∀ j, j < w → xl j = gT j ∧ ∃ u : Nat, 33 ≤ u ∧ u ≤ 126 ∧ gT j = nI u
section RDA
variable {xl gT : Nat → Int32} {w : Nat}
theorem cc_in (T : tx_ok xl gT w) {p : Nat} (h : p < w) : 33 ≤ cc gT w p ∧ cc gT w p ≤ 126 ∧ gT p = nI (cc gT w p) ∧ xl p = nI (cc gT w p) := by
  obtain ⟨e, u, h1, h2, h3⟩ := T.2 p h
  have h4 : cc gT w p = u := by
    unfold cc
    rw [if_pos h, h3, nI_clamp (by omega)]
  rw [h4, e, h3]
  exact ⟨h1, h2, rfl, rfl⟩
theorem cc_out {p : Nat} (h : ¬ p < w) : cc gT w p = 0 := if_neg h
theorem cc_lt (T : tx_ok xl gT w) (p : Nat) : cc gT w p ≤ 126 := by
  by_cases h : p < w
  · exact (cc_in T h).2.1
  · rw [cc_out h]; omega
theorem cc_pos (T : tx_ok xl gT w) {p : Nat} (h : 0 < cc gT w p) : p < w := by
  by_cases h2 : p < w
  · exact h2
  · rw [cc_out h2] at h; omega
theorem at_n (T : tx_ok xl gT w) {p : Nat} (hp : p < 1000000) : fS_at xl (nI w) (nI p) = nI (cc gT w p) := by
  have hw := T.1
  unfold fS_at
  rw [if_neg (nI_pos (by omega)), nI_clamp (by omega)]
  by_cases h : p < w
  · rw [if_neg (nI_ge h (by omega))]
    exact (cc_in T h).2.2.2
  · rw [if_pos (nI_le (by omega) (by omega)), cc_out h, nI_0]
theorem he_n (T : tx_ok xl gT w) {p : Nat} (hp : p < 1000000) : fM_here gT (nI w) (nI p) = if p < w then nI (cc gT w p) else -1 := by
  have hw := T.1
  unfold fM_here
  rw [nI_clamp (by omega)]
  by_cases h : p < w
  · rw [if_neg (nI_ge h (by omega)), if_pos h]
    exact (cc_in T h).2.2.1
  · rw [if_pos (nI_le (by omega) (by omega)), if_neg h]
theorem he_eq (T : tx_ok xl gT w) (x : Int32) {p k : Nat} (ex : x = nI k) (hp : p < 1000000) (hk1 : 0 < k) (hk2 : k ≤ 126) : fM_here gT (nI w) (nI p) = x ↔ cc gT w p = k := by
  rw [ex, he_n T hp]
  by_cases h : p < w
  · rw [if_pos h, nI_eq (by have := cc_lt T p; omega) (by omega)]
  · rw [if_neg h, cc_out h]
    constructor
    · intro q
      have := congrArg Int32.toInt q
      rw [nI_toInt (by omega), show (-1 : Int32).toInt = -1 from by decide] at this
      omega
    · intro q; omega
theorem at_eq (T : tx_ok xl gT w) (x : Int32) {p k : Nat} (ex : x = nI k) (hp : p < 1000000) (hk2 : k ≤ 126) : fS_at xl (nI w) (nI p) = x ↔ cc gT w p = k := by
  rw [ex, at_n T hp, nI_eq (by have := cc_lt T p; omega) (by omega)]
/-- the letter's size -/
def lsz (c : Nat) : Nat := if c = 104 then 6 else (if c = 115 then 2 else (if c = 99 then 3 else 0))
theorem nb_n {c : Nat} (hc : c ≤ 126) : fK_numbersBehind (nI c) = nI (lsz c) := by
  unfold fK_numbersBehind lsz
  have k : ∀ (x : Int32) (q : Nat), x = nI q → q ≤ 126 → (nI c = x ↔ c = q) := fun x q e hq => l_eq x e (by omega) (by omega)
  by_cases h1 : c = 104
  · rw [if_pos ((k 104 104 (by decide) (by omega)).mpr h1), if_pos h1]; decide
  by_cases h2 : c = 115
  · rw [if_neg (fun q => h1 ((k 104 104 (by decide) (by omega)).mp q)), if_pos ((k 115 115 (by decide) (by omega)).mpr h2), if_neg h1, if_pos h2]; decide
  by_cases h3 : c = 99
  · rw [if_neg (fun q => h1 ((k 104 104 (by decide) (by omega)).mp q)), if_neg (fun q => h2 ((k 115 115 (by decide) (by omega)).mp q)), if_pos ((k 99 99 (by decide) (by omega)).mpr h3), if_neg h1, if_neg h2, if_pos h3]; decide
  · rw [if_neg (fun q => h1 ((k 104 104 (by decide) (by omega)).mp q)), if_neg (fun q => h2 ((k 115 115 (by decide) (by omega)).mp q)), if_neg (fun q => h3 ((k 99 99 (by decide) (by omega)).mp q)), if_neg h1, if_neg h2, if_neg h3, nI_0]
theorem so_n {c : Nat} (hc : c ≤ 126) : fM_sizeOf (nI c) = nI (lsz c) := nb_n hc
theorem so_h (T : tx_ok xl gT w) {p : Nat} (hp : p < 1000000) : fM_sizeOf (fM_here gT (nI w) (nI p)) = nI (lsz (cc gT w p)) := by
  rw [he_n T hp]
  by_cases h : p < w
  · rw [if_pos h]; exact so_n (cc_lt T p)
  · rw [if_neg h, cc_out h]; decide
theorem lsz_6 (c : Nat) : lsz c ≤ 6 := by
  unfold lsz
  split
  · omega
  · split
    · omega
    · split <;> omega
theorem dg_n {c : Nat} (hc : c ≤ 126) : fT_isDigit (nI c) = 0 ↔ ¬ (48 ≤ c ∧ c ≤ 57) := by
  unfold fT_isDigit
  by_cases h1 : c < 48
  · rw [if_pos ((l_ltb 48 (b := 48) (by decide) (by omega) (by omega)).mpr h1)]
    exact ⟨fun _ => by omega, fun _ => rfl⟩
  · rw [if_neg (fun q => h1 ((l_ltb 48 (b := 48) (by decide) (by omega) (by omega)).mp q))]
    by_cases h2 : 57 < c
    · rw [if_pos ((l_lta 57 (a := 57) (by decide) (by omega) (by omega)).mpr h2)]
      exact ⟨fun _ => by omega, fun _ => rfl⟩
    · rw [if_neg (fun q => h2 ((l_lta 57 (a := 57) (by decide) (by omega) (by omega)).mp q))]
      exact ⟨fun q => absurd q (by decide), fun q => absurd ⟨by omega, by omega⟩ q⟩
theorem nm_val {v t : Nat} : (10 : Int32) * nI v + (nI (48 + t) - 48) = nI (10 * v + t) ∧ (10 : Int32) * nI v + nI (48 + t) - 48 = nI (10 * v + t) := by
  have e1 : (10 : Int32) * nI v = nI (10 * v) := pk_mul 10 v
  have e2 : nI (48 + t) = nI t + 48 := by rw [Nat.add_comm]; exact (nI_add t 48).symm
  have e3 : nI (10 * v + t) = nI (10 * v) + nI t := (nI_add _ _).symm
  rw [e1, e2, e3]
  constructor
  · simp
  · rw [← Int32.add_assoc]; simp
theorem nm_sim (T : tx_ok xl gT w) : ∀ (n v p dg : Nat), dg ≤ 5 → 5 < dg + n → v < 10 ^ dg → p < 900000 → ∃ v' e : Nat, dg + e ≤ 5 ∧ v' < 10 ^ (dg + e) ∧ (1 ≤ e → p + e ≤ w) ∧ (∀ va vf : Int32, gM_readNumber gT (nI w) va vf n (nI v) (nI p) dg = (nI v', nI (p + e), if dg + e = 0 then fM_failAt vf (nI (p + e)) else vf)) ∧ (∀ (tl tn : Nat → Int32) (row k start : Int32), gT_fillNumber tl tn xl (nI w) row k start n (nI v) (nI p) dg = if nI (p + e) = start then (fT_fault start, tn) else (if fT_mayStand tl tn row k (nI v') = 0 then (fT_fault start, tn) else (nI (p + e), upd tn (Int32.toNatClampNeg ((row * 6) + k)) (nI v')))) := by
  intro n
  induction n with
  | zero => intro v p dg h1 h2; omega
  | succ n ih =>
    intro v p dg h1 h2 h3 h4
    have z : (nI dg = 0) ↔ dg = 0 := l_eq 0 (b := 0) (by decide) (by omega) (by omega)
    have stopM : ∀ vf : Int32, (if nI dg = 0 then (nI v, nI p, fM_failAt vf (nI p)) else (nI v, nI p, vf)) = (nI v, nI (p + 0), if dg + 0 = 0 then fM_failAt vf (nI (p + 0)) else vf) := by
      intro vf
      by_cases q : dg = 0
      · rw [if_pos (z.mpr q), if_pos (by omega)]; rfl
      · rw [if_neg (fun y => q (z.mp y)), if_neg (by omega)]; rfl
    have hc := cc_lt T p
    by_cases c5 : dg = 5
    · refine ⟨v, 0, by omega, h3, fun q => by omega, fun va vf => ?_, fun tl tn row k start => ?_⟩
      · rw [gM_readNumber, if_pos (l_le 5 (a := 5) (by decide) (by omega) (by omega))]; exact stopM vf
      · rw [gT_fillNumber, if_pos (l_le 5 (a := 5) (by decide) (by omega) (by omega))]; rfl
    by_cases d : 48 ≤ cc gT w p ∧ cc gT w p ≤ 57
    · have hpw := cc_pos T (p := p) (by omega)
      have hw := T.1
      obtain ⟨t, ht⟩ : ∃ t, cc gT w p = 48 + t := ⟨cc gT w p - 48, by omega⟩
      have hpow : 10 ^ (dg + 1) = 10 * 10 ^ dg := by rw [Nat.pow_succ, Nat.mul_comm]
      obtain ⟨v', e, b1, b2, b3, b4, b5⟩ := ih (10 * v + t) (p + 1) (dg + 1) (by omega) (by omega) (by omega) (by omega)
      refine ⟨v', e + 1, by omega, ?_, fun _ => ?_, fun va vf => ?_, fun tl tn row k start => ?_⟩
      · rw [show dg + (e + 1) = dg + 1 + e by omega]; exact b2
      · by_cases q : 1 ≤ e
        · have := b3 q; omega
        · omega
      · rw [gM_readNumber, if_neg (l_ge 5 (b := 5) (by decide) (by omega) (by omega)), he_n T (by omega), if_pos hpw, if_neg (l_nlt 48 (b := 48) (by decide) d.1 (by omega)), if_neg (l_nlu 57 (a := 57) (by decide) d.2 (by omega)), ht, nm_val.2, nI_1, b4, show p + (e + 1) = p + 1 + e by omega, if_neg (by omega), if_neg (by omega)]
      · rw [gT_fillNumber, if_neg (l_ge 5 (b := 5) (by decide) (by omega) (by omega)), at_n T (by omega), if_neg (fun q => (dg_n hc).mp q d), ht, nm_val.1, nI_1, b5, show p + (e + 1) = p + 1 + e by omega]
    · refine ⟨v, 0, by omega, h3, fun q => by omega, fun va vf => ?_, fun tl tn row k start => ?_⟩
      · rw [gM_readNumber, if_neg (l_ge 5 (b := 5) (by decide) (by omega) (by omega))]
        by_cases hpw : p < w
        · rw [he_n T (by omega), if_pos hpw]
          by_cases q : cc gT w p < 48
          · rw [if_pos ((l_ltb 48 (b := 48) (by decide) (by omega) (by omega)).mpr q)]
            exact stopM vf
          · rw [if_neg (l_nlt 48 (b := 48) (by decide) (by omega) (by omega)), if_pos ((l_lta 57 (a := 57) (by decide) (by omega) (by omega)).mpr (by omega))]
            exact stopM vf
        · rw [he_n T (by omega), if_neg hpw, if_pos (by decide)]
          exact stopM vf
      · rw [gT_fillNumber, if_neg (l_ge 5 (b := 5) (by decide) (by omega) (by omega)), at_n T (by omega), if_pos ((dg_n hc).mpr d)]; rfl
theorem nm_all (T : tx_ok xl gT w) {p : Nat} (hp : p < 900000) : ∃ v d : Nat, d ≤ 5 ∧ v ≤ 99999 ∧ (1 ≤ d → p + d ≤ w) ∧ (∀ vf : Int32, fM_readNumber gT (nI w) (nI p) vf = (nI v, nI (p + d), if d = 0 then fM_failAt vf (nI p) else vf)) ∧ ∀ (tl tn : Nat → Int32) (row k : Int32), fT_fillNumber tl tn xl (nI w) row k (nI p) = if d = 0 ∨ fT_mayStand tl tn row k (nI v) = 0 then (fT_fault (nI p), tn) else (nI (p + d), upd tn (Int32.toNatClampNeg ((row * 6) + k)) (nI v)) := by
  obtain ⟨v, e, h1, h2, h3, h4, h5⟩ := nm_sim T 6 0 p 0 (by omega) (by omega) (by omega) hp
  have q1 : 10 ^ (0 + e) ≤ 10 ^ 5 := Nat.pow_le_pow_right (n := 10) (by omega) h1
  rw [nI_0] at h4 h5
  refine ⟨v, e, by omega, by omega, h3, fun vf => ?_, fun tl tn row k => ?_⟩
  · unfold fM_readNumber
    rw [h4]
    by_cases c : e = 0
    · subst c; rfl
    · rw [if_neg (by omega), if_neg c]
  · unfold fT_fillNumber
    rw [h5]
    have ez : (nI (p + e) = nI p) ↔ e = 0 := by
      rw [nI_eq (by omega) (by omega)]; omega
    by_cases c : e = 0
    · rw [if_pos (ez.mpr c), if_pos (Or.inl c)]
    · rw [if_neg (fun q => c (ez.mp q))]
      by_cases c2 : fT_mayStand tl tn row k (nI v) = 0
      · rw [if_pos c2, if_pos (Or.inr c2)]
      · rw [if_neg c2, if_neg (fun q => q.elim c c2)]
end RDA
