/-! comparisons with a written number -/
theorem l_ge (k : Int32) {a b : Nat} (e : k = nI b) (h : a < b) (hb : b < 2 ^ 31) : ¬ k ≤ nI a := by rw [e]; exact nI_ge h hb
theorem l_le (k : Int32) {a b : Nat} (e : k = nI a) (h : a ≤ b) (hb : b < 2 ^ 31) : k ≤ nI b := by rw [e]; exact nI_le h hb
theorem l_nlt (k : Int32) {a b : Nat} (e : k = nI b) (h : b ≤ a) (ha : a < 2 ^ 31) : ¬ nI a < k := by rw [e]; exact nI_nlt h ha
theorem l_nlu (k : Int32) {a b : Nat} (e : k = nI a) (h : b ≤ a) (ha : a < 2 ^ 31) : ¬ k < nI b := by rw [e]; exact nI_nlt h ha
theorem l_ltb (k : Int32) {a b : Nat} (e : k = nI b) (ha : a < 2 ^ 31) (hb : b < 2 ^ 31) : nI a < k ↔ a < b := by rw [e]; exact nI_ltI ha hb
theorem l_lta (k : Int32) {a b : Nat} (e : k = nI a) (ha : a < 2 ^ 31) (hb : b < 2 ^ 31) : k < nI b ↔ a < b := by rw [e]; exact nI_ltI ha hb
theorem l_eq (k : Int32) {a b : Nat} (e : k = nI b) (ha : a < 2 ^ 31) (hb : b < 2 ^ 31) : nI a = k ↔ a = b := by rw [e]; exact nI_eq ha hb
theorem m_ltb (k : Int64) {a b : Nat} (e : k = lN b) (ha : a < 2 ^ 31) (hb : b < 2 ^ 31) : lN a < k ↔ a < b := by rw [e]; exact lN_lt ha hb
theorem m_lta (k : Int64) {a b : Nat} (e : k = lN a) (ha : a < 2 ^ 31) (hb : b < 2 ^ 31) : k < lN b ↔ a < b := by rw [e]; exact lN_lt ha hb
