/-! The model's tasks -/
/-- what a task does: n tasks lie below it, it begins at height cur with op things open, and leaves c1 and o1 -/
def tt (w a b n cur op c1 o1 : Int) : Prop :=
  (w = 1 ∧ (n = 0 ∧ cur = 0 ∧ op = 0) ∧ c1 = 0 ∧ o1 = 0) ∨
  (w = 2 ∧ (n = 0 ∧ cur = 0 ∧ op = 0) ∧ c1 = 0 ∧ o1 = 0) ∨
  (w = 3 ∧ (n = 1 ∧ cur = 0 ∧ op = 0) ∧ c1 = 0 ∧ o1 = 0) ∨
  (w = 4 ∧ (n = 1 ∧ cur = 1 ∧ op = 0) ∧ c1 = 0 ∧ o1 = 0) ∨
  (w = 5 ∧ (1 ≤ n ∧ n ≤ 20 * op + 3 ∧ cur = 0 ∧ 0 ≤ op) ∧ c1 = 0 ∧ o1 = op) ∨
  (w = 6 ∧ (1 ≤ n ∧ n ≤ 20 * op - 15 ∧ cur = 0 ∧ 1 ≤ op) ∧ c1 = 0 ∧ o1 = op - 1) ∨
  (w = 7 ∧ (1 ≤ n ∧ n ≤ 20 * op - 14 ∧ cur = 1 ∧ 1 ≤ op) ∧ c1 = 0 ∧ o1 = op) ∨
  (w = 8 ∧ (1 ≤ n ∧ n ≤ 20 * op - 14 ∧ cur = 0 ∧ 1 ≤ op) ∧ c1 = 0 ∧ o1 = op) ∨
  (w = 9 ∧ (1 ≤ n ∧ n ≤ 20 * op - 14 ∧ cur = 0 ∧ 1 ≤ op) ∧ c1 = 0 ∧ o1 = op) ∨
  (w = 10 ∧ (1 ≤ n ∧ n ≤ 20 * op - 14 ∧ cur = 1 ∧ 1 ≤ op) ∧ c1 = 0 ∧ o1 = op) ∨
  (w = 11 ∧ (1 ≤ n ∧ n ≤ 20 * op - 14 ∧ cur = 0 ∧ 1 ≤ op) ∧ c1 = 0 ∧ o1 = op) ∨
  (w = 12 ∧ (1 ≤ n ∧ n ≤ 20 * op - 13 ∧ cur = 0 ∧ 1 ≤ op) ∧ c1 = 0 ∧ o1 = op) ∨
  (w = 13 ∧ (1 ≤ n ∧ n ≤ 20 * op - 15 ∧ cur = b ∧ 1 ≤ op) ∧ c1 = 0 ∧ o1 = op - 1) ∨
  (w = 14 ∧ (1 ≤ n ∧ n ≤ 20 * op - 15 ∧ cur = b + 1 ∧ 1 ≤ op) ∧ c1 = 0 ∧ o1 = op - 1) ∨
  (w = 15 ∧ (1 ≤ n ∧ n ≤ 20 * op + 13 ∧ 0 ≤ cur ∧ 0 ≤ op) ∧ c1 = cur + 1 ∧ o1 = op) ∨
  (w = 16 ∧ (1 ≤ n ∧ n ≤ 20 * op - 7 ∧ 1 ≤ cur ∧ 1 ≤ op) ∧ c1 = cur ∧ o1 = op - 1) ∨
  (w = 17 ∧ (1 ≤ n ∧ n ≤ 20 * op + 3 ∧ 0 ≤ cur ∧ 0 ≤ op) ∧ c1 = cur + 1 ∧ o1 = op) ∨
  (w = 18 ∧ (1 ≤ n ∧ n ≤ 20 * op + 3 ∧ 1 ≤ cur ∧ 0 ≤ op) ∧ c1 = cur ∧ o1 = op) ∨
  (w = 19 ∧ (1 ≤ n ∧ n ≤ 20 * op - 8 ∧ 2 ≤ cur ∧ 1 ≤ op) ∧ c1 = cur - 1 ∧ o1 = op - 1) ∨
  (w = 20 ∧ (1 ≤ n ∧ n ≤ 20 * op - 8 ∧ 3 ≤ cur ∧ 1 ≤ op) ∧ c1 = cur - 2 ∧ o1 = op - 1) ∨
  (w = 21 ∧ (1 ≤ n ∧ n ≤ 20 * op + 4 + a ∧ 0 ≤ cur ∧ 0 ≤ op) ∧ c1 = cur + 1 ∧ o1 = op) ∨
  (w = 22 ∧ (1 ≤ n ∧ n ≤ 20 * op + 4 + a ∧ 1 ≤ cur ∧ 0 ≤ op) ∧ c1 = cur ∧ o1 = op) ∨
  (w = 23 ∧ (1 ≤ n ∧ n ≤ 20 * op + 4 + a ∧ 2 ≤ cur ∧ 0 ≤ op) ∧ c1 = cur - 1 ∧ o1 = op) ∨
  (w = 24 ∧ (1 ≤ n ∧ n ≤ 20 * op + 12 ∧ 0 ≤ cur ∧ 0 ≤ op) ∧ c1 = cur + 1 ∧ o1 = op) ∨
  (w = 25 ∧ (1 ≤ n ∧ n ≤ 20 * op - 8 ∧ 1 ≤ cur ∧ 1 ≤ op) ∧ c1 = cur ∧ o1 = op - 1) ∨
  (w = 26 ∧ (1 ≤ n ∧ n ≤ 20 * op - 8 ∧ 1 ≤ cur ∧ 1 ≤ op) ∧ c1 = cur ∧ o1 = op - 1) ∨
  (w = 27 ∧ (1 ≤ n ∧ n ≤ 20 * op + 12 ∧ 1 ≤ cur ∧ 0 ≤ op) ∧ c1 = cur ∧ o1 = op) ∨
  (w = 28 ∧ (1 ≤ n ∧ n ≤ 20 * op - 8 ∧ b ≤ cur ∧ 0 ≤ b ∧ 1 ≤ op) ∧ c1 = cur - b + 1 ∧ o1 = op - 1) ∨
  (w = 29 ∧ (1 ≤ n ∧ n ≤ 20 * op - 8 ∧ b + 1 ≤ cur ∧ 0 ≤ b ∧ 1 ≤ op) ∧ c1 = cur - b ∧ o1 = op - 1)
theorem tt_1 {a b n cur op : Int} (h : n = 0 ∧ cur = 0 ∧ op = 0) : tt 1 a b n cur op (0) (0) := Or.inl ⟨rfl, h, rfl, rfl⟩
theorem tx_1 {a b n cur op c1 o1 : Int} (h : tt 1 a b n cur op c1 o1) : (n = 0 ∧ cur = 0 ∧ op = 0) ∧ c1 = 0 ∧ o1 = 0 := by
  unfold tt at h
  rcases h with h | h | h | h | h | h | h | h | h | h | h | h | h | h | h | h | h | h | h | h | h | h | h | h | h | h | h | h | h <;> first | exact h.2 | (exfalso; have := h.1; omega)
theorem tt_2 {a b n cur op : Int} (h : n = 0 ∧ cur = 0 ∧ op = 0) : tt 2 a b n cur op (0) (0) := Or.inr (Or.inl ⟨rfl, h, rfl, rfl⟩)
theorem tx_2 {a b n cur op c1 o1 : Int} (h : tt 2 a b n cur op c1 o1) : (n = 0 ∧ cur = 0 ∧ op = 0) ∧ c1 = 0 ∧ o1 = 0 := by
  unfold tt at h
  rcases h with h | h | h | h | h | h | h | h | h | h | h | h | h | h | h | h | h | h | h | h | h | h | h | h | h | h | h | h | h <;> first | exact h.2 | (exfalso; have := h.1; omega)
theorem tt_3 {a b n cur op : Int} (h : n = 1 ∧ cur = 0 ∧ op = 0) : tt 3 a b n cur op (0) (0) := Or.inr (Or.inr (Or.inl ⟨rfl, h, rfl, rfl⟩))
theorem tx_3 {a b n cur op c1 o1 : Int} (h : tt 3 a b n cur op c1 o1) : (n = 1 ∧ cur = 0 ∧ op = 0) ∧ c1 = 0 ∧ o1 = 0 := by
  unfold tt at h
  rcases h with h | h | h | h | h | h | h | h | h | h | h | h | h | h | h | h | h | h | h | h | h | h | h | h | h | h | h | h | h <;> first | exact h.2 | (exfalso; have := h.1; omega)
theorem tt_4 {a b n cur op : Int} (h : n = 1 ∧ cur = 1 ∧ op = 0) : tt 4 a b n cur op (0) (0) := Or.inr (Or.inr (Or.inr (Or.inl ⟨rfl, h, rfl, rfl⟩)))
theorem tx_4 {a b n cur op c1 o1 : Int} (h : tt 4 a b n cur op c1 o1) : (n = 1 ∧ cur = 1 ∧ op = 0) ∧ c1 = 0 ∧ o1 = 0 := by
  unfold tt at h
  rcases h with h | h | h | h | h | h | h | h | h | h | h | h | h | h | h | h | h | h | h | h | h | h | h | h | h | h | h | h | h <;> first | exact h.2 | (exfalso; have := h.1; omega)
theorem tt_5 {a b n cur op : Int} (h : 1 ≤ n ∧ n ≤ 20 * op + 3 ∧ cur = 0 ∧ 0 ≤ op) : tt 5 a b n cur op (0) (op) := Or.inr (Or.inr (Or.inr (Or.inr (Or.inl ⟨rfl, h, rfl, rfl⟩))))
theorem tx_5 {a b n cur op c1 o1 : Int} (h : tt 5 a b n cur op c1 o1) : (1 ≤ n ∧ n ≤ 20 * op + 3 ∧ cur = 0 ∧ 0 ≤ op) ∧ c1 = 0 ∧ o1 = op := by
  unfold tt at h
  rcases h with h | h | h | h | h | h | h | h | h | h | h | h | h | h | h | h | h | h | h | h | h | h | h | h | h | h | h | h | h <;> first | exact h.2 | (exfalso; have := h.1; omega)
theorem tt_6 {a b n cur op : Int} (h : 1 ≤ n ∧ n ≤ 20 * op - 15 ∧ cur = 0 ∧ 1 ≤ op) : tt 6 a b n cur op (0) (op - 1) := Or.inr (Or.inr (Or.inr (Or.inr (Or.inr (Or.inl ⟨rfl, h, rfl, rfl⟩)))))
theorem tx_6 {a b n cur op c1 o1 : Int} (h : tt 6 a b n cur op c1 o1) : (1 ≤ n ∧ n ≤ 20 * op - 15 ∧ cur = 0 ∧ 1 ≤ op) ∧ c1 = 0 ∧ o1 = op - 1 := by
  unfold tt at h
  rcases h with h | h | h | h | h | h | h | h | h | h | h | h | h | h | h | h | h | h | h | h | h | h | h | h | h | h | h | h | h <;> first | exact h.2 | (exfalso; have := h.1; omega)
theorem tt_7 {a b n cur op : Int} (h : 1 ≤ n ∧ n ≤ 20 * op - 14 ∧ cur = 1 ∧ 1 ≤ op) : tt 7 a b n cur op (0) (op) := Or.inr (Or.inr (Or.inr (Or.inr (Or.inr (Or.inr (Or.inl ⟨rfl, h, rfl, rfl⟩))))))
theorem tx_7 {a b n cur op c1 o1 : Int} (h : tt 7 a b n cur op c1 o1) : (1 ≤ n ∧ n ≤ 20 * op - 14 ∧ cur = 1 ∧ 1 ≤ op) ∧ c1 = 0 ∧ o1 = op := by
  unfold tt at h
  rcases h with h | h | h | h | h | h | h | h | h | h | h | h | h | h | h | h | h | h | h | h | h | h | h | h | h | h | h | h | h <;> first | exact h.2 | (exfalso; have := h.1; omega)
theorem tt_8 {a b n cur op : Int} (h : 1 ≤ n ∧ n ≤ 20 * op - 14 ∧ cur = 0 ∧ 1 ≤ op) : tt 8 a b n cur op (0) (op) := Or.inr (Or.inr (Or.inr (Or.inr (Or.inr (Or.inr (Or.inr (Or.inl ⟨rfl, h, rfl, rfl⟩)))))))
theorem tx_8 {a b n cur op c1 o1 : Int} (h : tt 8 a b n cur op c1 o1) : (1 ≤ n ∧ n ≤ 20 * op - 14 ∧ cur = 0 ∧ 1 ≤ op) ∧ c1 = 0 ∧ o1 = op := by
  unfold tt at h
  rcases h with h | h | h | h | h | h | h | h | h | h | h | h | h | h | h | h | h | h | h | h | h | h | h | h | h | h | h | h | h <;> first | exact h.2 | (exfalso; have := h.1; omega)
theorem tt_9 {a b n cur op : Int} (h : 1 ≤ n ∧ n ≤ 20 * op - 14 ∧ cur = 0 ∧ 1 ≤ op) : tt 9 a b n cur op (0) (op) := Or.inr (Or.inr (Or.inr (Or.inr (Or.inr (Or.inr (Or.inr (Or.inr (Or.inl ⟨rfl, h, rfl, rfl⟩))))))))
theorem tx_9 {a b n cur op c1 o1 : Int} (h : tt 9 a b n cur op c1 o1) : (1 ≤ n ∧ n ≤ 20 * op - 14 ∧ cur = 0 ∧ 1 ≤ op) ∧ c1 = 0 ∧ o1 = op := by
  unfold tt at h
  rcases h with h | h | h | h | h | h | h | h | h | h | h | h | h | h | h | h | h | h | h | h | h | h | h | h | h | h | h | h | h <;> first | exact h.2 | (exfalso; have := h.1; omega)
theorem tt_10 {a b n cur op : Int} (h : 1 ≤ n ∧ n ≤ 20 * op - 14 ∧ cur = 1 ∧ 1 ≤ op) : tt 10 a b n cur op (0) (op) := Or.inr (Or.inr (Or.inr (Or.inr (Or.inr (Or.inr (Or.inr (Or.inr (Or.inr (Or.inl ⟨rfl, h, rfl, rfl⟩)))))))))
theorem tx_10 {a b n cur op c1 o1 : Int} (h : tt 10 a b n cur op c1 o1) : (1 ≤ n ∧ n ≤ 20 * op - 14 ∧ cur = 1 ∧ 1 ≤ op) ∧ c1 = 0 ∧ o1 = op := by
  unfold tt at h
  rcases h with h | h | h | h | h | h | h | h | h | h | h | h | h | h | h | h | h | h | h | h | h | h | h | h | h | h | h | h | h <;> first | exact h.2 | (exfalso; have := h.1; omega)
theorem tt_11 {a b n cur op : Int} (h : 1 ≤ n ∧ n ≤ 20 * op - 14 ∧ cur = 0 ∧ 1 ≤ op) : tt 11 a b n cur op (0) (op) := Or.inr (Or.inr (Or.inr (Or.inr (Or.inr (Or.inr (Or.inr (Or.inr (Or.inr (Or.inr (Or.inl ⟨rfl, h, rfl, rfl⟩))))))))))
theorem tx_11 {a b n cur op c1 o1 : Int} (h : tt 11 a b n cur op c1 o1) : (1 ≤ n ∧ n ≤ 20 * op - 14 ∧ cur = 0 ∧ 1 ≤ op) ∧ c1 = 0 ∧ o1 = op := by
  unfold tt at h
  rcases h with h | h | h | h | h | h | h | h | h | h | h | h | h | h | h | h | h | h | h | h | h | h | h | h | h | h | h | h | h <;> first | exact h.2 | (exfalso; have := h.1; omega)
theorem tt_12 {a b n cur op : Int} (h : 1 ≤ n ∧ n ≤ 20 * op - 13 ∧ cur = 0 ∧ 1 ≤ op) : tt 12 a b n cur op (0) (op) := Or.inr (Or.inr (Or.inr (Or.inr (Or.inr (Or.inr (Or.inr (Or.inr (Or.inr (Or.inr (Or.inr (Or.inl ⟨rfl, h, rfl, rfl⟩)))))))))))
theorem tx_12 {a b n cur op c1 o1 : Int} (h : tt 12 a b n cur op c1 o1) : (1 ≤ n ∧ n ≤ 20 * op - 13 ∧ cur = 0 ∧ 1 ≤ op) ∧ c1 = 0 ∧ o1 = op := by
  unfold tt at h
  rcases h with h | h | h | h | h | h | h | h | h | h | h | h | h | h | h | h | h | h | h | h | h | h | h | h | h | h | h | h | h <;> first | exact h.2 | (exfalso; have := h.1; omega)
theorem tt_13 {a b n cur op : Int} (h : 1 ≤ n ∧ n ≤ 20 * op - 15 ∧ cur = b ∧ 1 ≤ op) : tt 13 a b n cur op (0) (op - 1) := Or.inr (Or.inr (Or.inr (Or.inr (Or.inr (Or.inr (Or.inr (Or.inr (Or.inr (Or.inr (Or.inr (Or.inr (Or.inl ⟨rfl, h, rfl, rfl⟩))))))))))))
theorem tx_13 {a b n cur op c1 o1 : Int} (h : tt 13 a b n cur op c1 o1) : (1 ≤ n ∧ n ≤ 20 * op - 15 ∧ cur = b ∧ 1 ≤ op) ∧ c1 = 0 ∧ o1 = op - 1 := by
  unfold tt at h
  rcases h with h | h | h | h | h | h | h | h | h | h | h | h | h | h | h | h | h | h | h | h | h | h | h | h | h | h | h | h | h <;> first | exact h.2 | (exfalso; have := h.1; omega)
theorem tt_14 {a b n cur op : Int} (h : 1 ≤ n ∧ n ≤ 20 * op - 15 ∧ cur = b + 1 ∧ 1 ≤ op) : tt 14 a b n cur op (0) (op - 1) := Or.inr (Or.inr (Or.inr (Or.inr (Or.inr (Or.inr (Or.inr (Or.inr (Or.inr (Or.inr (Or.inr (Or.inr (Or.inr (Or.inl ⟨rfl, h, rfl, rfl⟩)))))))))))))
theorem tx_14 {a b n cur op c1 o1 : Int} (h : tt 14 a b n cur op c1 o1) : (1 ≤ n ∧ n ≤ 20 * op - 15 ∧ cur = b + 1 ∧ 1 ≤ op) ∧ c1 = 0 ∧ o1 = op - 1 := by
  unfold tt at h
  rcases h with h | h | h | h | h | h | h | h | h | h | h | h | h | h | h | h | h | h | h | h | h | h | h | h | h | h | h | h | h <;> first | exact h.2 | (exfalso; have := h.1; omega)
theorem tt_15 {a b n cur op : Int} (h : 1 ≤ n ∧ n ≤ 20 * op + 13 ∧ 0 ≤ cur ∧ 0 ≤ op) : tt 15 a b n cur op (cur + 1) (op) := Or.inr (Or.inr (Or.inr (Or.inr (Or.inr (Or.inr (Or.inr (Or.inr (Or.inr (Or.inr (Or.inr (Or.inr (Or.inr (Or.inr (Or.inl ⟨rfl, h, rfl, rfl⟩))))))))))))))
theorem tx_15 {a b n cur op c1 o1 : Int} (h : tt 15 a b n cur op c1 o1) : (1 ≤ n ∧ n ≤ 20 * op + 13 ∧ 0 ≤ cur ∧ 0 ≤ op) ∧ c1 = cur + 1 ∧ o1 = op := by
  unfold tt at h
  rcases h with h | h | h | h | h | h | h | h | h | h | h | h | h | h | h | h | h | h | h | h | h | h | h | h | h | h | h | h | h <;> first | exact h.2 | (exfalso; have := h.1; omega)
theorem tt_16 {a b n cur op : Int} (h : 1 ≤ n ∧ n ≤ 20 * op - 7 ∧ 1 ≤ cur ∧ 1 ≤ op) : tt 16 a b n cur op (cur) (op - 1) := Or.inr (Or.inr (Or.inr (Or.inr (Or.inr (Or.inr (Or.inr (Or.inr (Or.inr (Or.inr (Or.inr (Or.inr (Or.inr (Or.inr (Or.inr (Or.inl ⟨rfl, h, rfl, rfl⟩)))))))))))))))
theorem tx_16 {a b n cur op c1 o1 : Int} (h : tt 16 a b n cur op c1 o1) : (1 ≤ n ∧ n ≤ 20 * op - 7 ∧ 1 ≤ cur ∧ 1 ≤ op) ∧ c1 = cur ∧ o1 = op - 1 := by
  unfold tt at h
  rcases h with h | h | h | h | h | h | h | h | h | h | h | h | h | h | h | h | h | h | h | h | h | h | h | h | h | h | h | h | h <;> first | exact h.2 | (exfalso; have := h.1; omega)
theorem tt_17 {a b n cur op : Int} (h : 1 ≤ n ∧ n ≤ 20 * op + 3 ∧ 0 ≤ cur ∧ 0 ≤ op) : tt 17 a b n cur op (cur + 1) (op) := Or.inr (Or.inr (Or.inr (Or.inr (Or.inr (Or.inr (Or.inr (Or.inr (Or.inr (Or.inr (Or.inr (Or.inr (Or.inr (Or.inr (Or.inr (Or.inr (Or.inl ⟨rfl, h, rfl, rfl⟩))))))))))))))))
theorem tx_17 {a b n cur op c1 o1 : Int} (h : tt 17 a b n cur op c1 o1) : (1 ≤ n ∧ n ≤ 20 * op + 3 ∧ 0 ≤ cur ∧ 0 ≤ op) ∧ c1 = cur + 1 ∧ o1 = op := by
  unfold tt at h
  rcases h with h | h | h | h | h | h | h | h | h | h | h | h | h | h | h | h | h | h | h | h | h | h | h | h | h | h | h | h | h <;> first | exact h.2 | (exfalso; have := h.1; omega)
theorem tt_18 {a b n cur op : Int} (h : 1 ≤ n ∧ n ≤ 20 * op + 3 ∧ 1 ≤ cur ∧ 0 ≤ op) : tt 18 a b n cur op (cur) (op) := Or.inr (Or.inr (Or.inr (Or.inr (Or.inr (Or.inr (Or.inr (Or.inr (Or.inr (Or.inr (Or.inr (Or.inr (Or.inr (Or.inr (Or.inr (Or.inr (Or.inr (Or.inl ⟨rfl, h, rfl, rfl⟩)))))))))))))))))
theorem tx_18 {a b n cur op c1 o1 : Int} (h : tt 18 a b n cur op c1 o1) : (1 ≤ n ∧ n ≤ 20 * op + 3 ∧ 1 ≤ cur ∧ 0 ≤ op) ∧ c1 = cur ∧ o1 = op := by
  unfold tt at h
  rcases h with h | h | h | h | h | h | h | h | h | h | h | h | h | h | h | h | h | h | h | h | h | h | h | h | h | h | h | h | h <;> first | exact h.2 | (exfalso; have := h.1; omega)
theorem tt_19 {a b n cur op : Int} (h : 1 ≤ n ∧ n ≤ 20 * op - 8 ∧ 2 ≤ cur ∧ 1 ≤ op) : tt 19 a b n cur op (cur - 1) (op - 1) := Or.inr (Or.inr (Or.inr (Or.inr (Or.inr (Or.inr (Or.inr (Or.inr (Or.inr (Or.inr (Or.inr (Or.inr (Or.inr (Or.inr (Or.inr (Or.inr (Or.inr (Or.inr (Or.inl ⟨rfl, h, rfl, rfl⟩))))))))))))))))))
theorem tx_19 {a b n cur op c1 o1 : Int} (h : tt 19 a b n cur op c1 o1) : (1 ≤ n ∧ n ≤ 20 * op - 8 ∧ 2 ≤ cur ∧ 1 ≤ op) ∧ c1 = cur - 1 ∧ o1 = op - 1 := by
  unfold tt at h
  rcases h with h | h | h | h | h | h | h | h | h | h | h | h | h | h | h | h | h | h | h | h | h | h | h | h | h | h | h | h | h <;> first | exact h.2 | (exfalso; have := h.1; omega)
theorem tt_20 {a b n cur op : Int} (h : 1 ≤ n ∧ n ≤ 20 * op - 8 ∧ 3 ≤ cur ∧ 1 ≤ op) : tt 20 a b n cur op (cur - 2) (op - 1) := Or.inr (Or.inr (Or.inr (Or.inr (Or.inr (Or.inr (Or.inr (Or.inr (Or.inr (Or.inr (Or.inr (Or.inr (Or.inr (Or.inr (Or.inr (Or.inr (Or.inr (Or.inr (Or.inr (Or.inl ⟨rfl, h, rfl, rfl⟩)))))))))))))))))))
theorem tx_20 {a b n cur op c1 o1 : Int} (h : tt 20 a b n cur op c1 o1) : (1 ≤ n ∧ n ≤ 20 * op - 8 ∧ 3 ≤ cur ∧ 1 ≤ op) ∧ c1 = cur - 2 ∧ o1 = op - 1 := by
  unfold tt at h
  rcases h with h | h | h | h | h | h | h | h | h | h | h | h | h | h | h | h | h | h | h | h | h | h | h | h | h | h | h | h | h <;> first | exact h.2 | (exfalso; have := h.1; omega)
theorem tt_21 {a b n cur op : Int} (h : 1 ≤ n ∧ n ≤ 20 * op + 4 + a ∧ 0 ≤ cur ∧ 0 ≤ op) : tt 21 a b n cur op (cur + 1) (op) := Or.inr (Or.inr (Or.inr (Or.inr (Or.inr (Or.inr (Or.inr (Or.inr (Or.inr (Or.inr (Or.inr (Or.inr (Or.inr (Or.inr (Or.inr (Or.inr (Or.inr (Or.inr (Or.inr (Or.inr (Or.inl ⟨rfl, h, rfl, rfl⟩))))))))))))))))))))
theorem tx_21 {a b n cur op c1 o1 : Int} (h : tt 21 a b n cur op c1 o1) : (1 ≤ n ∧ n ≤ 20 * op + 4 + a ∧ 0 ≤ cur ∧ 0 ≤ op) ∧ c1 = cur + 1 ∧ o1 = op := by
  unfold tt at h
  rcases h with h | h | h | h | h | h | h | h | h | h | h | h | h | h | h | h | h | h | h | h | h | h | h | h | h | h | h | h | h <;> first | exact h.2 | (exfalso; have := h.1; omega)
theorem tt_22 {a b n cur op : Int} (h : 1 ≤ n ∧ n ≤ 20 * op + 4 + a ∧ 1 ≤ cur ∧ 0 ≤ op) : tt 22 a b n cur op (cur) (op) := Or.inr (Or.inr (Or.inr (Or.inr (Or.inr (Or.inr (Or.inr (Or.inr (Or.inr (Or.inr (Or.inr (Or.inr (Or.inr (Or.inr (Or.inr (Or.inr (Or.inr (Or.inr (Or.inr (Or.inr (Or.inr (Or.inl ⟨rfl, h, rfl, rfl⟩)))))))))))))))))))))
theorem tx_22 {a b n cur op c1 o1 : Int} (h : tt 22 a b n cur op c1 o1) : (1 ≤ n ∧ n ≤ 20 * op + 4 + a ∧ 1 ≤ cur ∧ 0 ≤ op) ∧ c1 = cur ∧ o1 = op := by
  unfold tt at h
  rcases h with h | h | h | h | h | h | h | h | h | h | h | h | h | h | h | h | h | h | h | h | h | h | h | h | h | h | h | h | h <;> first | exact h.2 | (exfalso; have := h.1; omega)
theorem tt_23 {a b n cur op : Int} (h : 1 ≤ n ∧ n ≤ 20 * op + 4 + a ∧ 2 ≤ cur ∧ 0 ≤ op) : tt 23 a b n cur op (cur - 1) (op) := Or.inr (Or.inr (Or.inr (Or.inr (Or.inr (Or.inr (Or.inr (Or.inr (Or.inr (Or.inr (Or.inr (Or.inr (Or.inr (Or.inr (Or.inr (Or.inr (Or.inr (Or.inr (Or.inr (Or.inr (Or.inr (Or.inr (Or.inl ⟨rfl, h, rfl, rfl⟩))))))))))))))))))))))
theorem tx_23 {a b n cur op c1 o1 : Int} (h : tt 23 a b n cur op c1 o1) : (1 ≤ n ∧ n ≤ 20 * op + 4 + a ∧ 2 ≤ cur ∧ 0 ≤ op) ∧ c1 = cur - 1 ∧ o1 = op := by
  unfold tt at h
  rcases h with h | h | h | h | h | h | h | h | h | h | h | h | h | h | h | h | h | h | h | h | h | h | h | h | h | h | h | h | h <;> first | exact h.2 | (exfalso; have := h.1; omega)
theorem tt_24 {a b n cur op : Int} (h : 1 ≤ n ∧ n ≤ 20 * op + 12 ∧ 0 ≤ cur ∧ 0 ≤ op) : tt 24 a b n cur op (cur + 1) (op) := Or.inr (Or.inr (Or.inr (Or.inr (Or.inr (Or.inr (Or.inr (Or.inr (Or.inr (Or.inr (Or.inr (Or.inr (Or.inr (Or.inr (Or.inr (Or.inr (Or.inr (Or.inr (Or.inr (Or.inr (Or.inr (Or.inr (Or.inr (Or.inl ⟨rfl, h, rfl, rfl⟩)))))))))))))))))))))))
theorem tx_24 {a b n cur op c1 o1 : Int} (h : tt 24 a b n cur op c1 o1) : (1 ≤ n ∧ n ≤ 20 * op + 12 ∧ 0 ≤ cur ∧ 0 ≤ op) ∧ c1 = cur + 1 ∧ o1 = op := by
  unfold tt at h
  rcases h with h | h | h | h | h | h | h | h | h | h | h | h | h | h | h | h | h | h | h | h | h | h | h | h | h | h | h | h | h <;> first | exact h.2 | (exfalso; have := h.1; omega)
theorem tt_25 {a b n cur op : Int} (h : 1 ≤ n ∧ n ≤ 20 * op - 8 ∧ 1 ≤ cur ∧ 1 ≤ op) : tt 25 a b n cur op (cur) (op - 1) := Or.inr (Or.inr (Or.inr (Or.inr (Or.inr (Or.inr (Or.inr (Or.inr (Or.inr (Or.inr (Or.inr (Or.inr (Or.inr (Or.inr (Or.inr (Or.inr (Or.inr (Or.inr (Or.inr (Or.inr (Or.inr (Or.inr (Or.inr (Or.inr (Or.inl ⟨rfl, h, rfl, rfl⟩))))))))))))))))))))))))
theorem tx_25 {a b n cur op c1 o1 : Int} (h : tt 25 a b n cur op c1 o1) : (1 ≤ n ∧ n ≤ 20 * op - 8 ∧ 1 ≤ cur ∧ 1 ≤ op) ∧ c1 = cur ∧ o1 = op - 1 := by
  unfold tt at h
  rcases h with h | h | h | h | h | h | h | h | h | h | h | h | h | h | h | h | h | h | h | h | h | h | h | h | h | h | h | h | h <;> first | exact h.2 | (exfalso; have := h.1; omega)
theorem tt_26 {a b n cur op : Int} (h : 1 ≤ n ∧ n ≤ 20 * op - 8 ∧ 1 ≤ cur ∧ 1 ≤ op) : tt 26 a b n cur op (cur) (op - 1) := Or.inr (Or.inr (Or.inr (Or.inr (Or.inr (Or.inr (Or.inr (Or.inr (Or.inr (Or.inr (Or.inr (Or.inr (Or.inr (Or.inr (Or.inr (Or.inr (Or.inr (Or.inr (Or.inr (Or.inr (Or.inr (Or.inr (Or.inr (Or.inr (Or.inr (Or.inl ⟨rfl, h, rfl, rfl⟩)))))))))))))))))))))))))
theorem tx_26 {a b n cur op c1 o1 : Int} (h : tt 26 a b n cur op c1 o1) : (1 ≤ n ∧ n ≤ 20 * op - 8 ∧ 1 ≤ cur ∧ 1 ≤ op) ∧ c1 = cur ∧ o1 = op - 1 := by
  unfold tt at h
  rcases h with h | h | h | h | h | h | h | h | h | h | h | h | h | h | h | h | h | h | h | h | h | h | h | h | h | h | h | h | h <;> first | exact h.2 | (exfalso; have := h.1; omega)
theorem tt_27 {a b n cur op : Int} (h : 1 ≤ n ∧ n ≤ 20 * op + 12 ∧ 1 ≤ cur ∧ 0 ≤ op) : tt 27 a b n cur op (cur) (op) := Or.inr (Or.inr (Or.inr (Or.inr (Or.inr (Or.inr (Or.inr (Or.inr (Or.inr (Or.inr (Or.inr (Or.inr (Or.inr (Or.inr (Or.inr (Or.inr (Or.inr (Or.inr (Or.inr (Or.inr (Or.inr (Or.inr (Or.inr (Or.inr (Or.inr (Or.inr (Or.inl ⟨rfl, h, rfl, rfl⟩))))))))))))))))))))))))))
theorem tx_27 {a b n cur op c1 o1 : Int} (h : tt 27 a b n cur op c1 o1) : (1 ≤ n ∧ n ≤ 20 * op + 12 ∧ 1 ≤ cur ∧ 0 ≤ op) ∧ c1 = cur ∧ o1 = op := by
  unfold tt at h
  rcases h with h | h | h | h | h | h | h | h | h | h | h | h | h | h | h | h | h | h | h | h | h | h | h | h | h | h | h | h | h <;> first | exact h.2 | (exfalso; have := h.1; omega)
theorem tt_28 {a b n cur op : Int} (h : 1 ≤ n ∧ n ≤ 20 * op - 8 ∧ b ≤ cur ∧ 0 ≤ b ∧ 1 ≤ op) : tt 28 a b n cur op (cur - b + 1) (op - 1) := Or.inr (Or.inr (Or.inr (Or.inr (Or.inr (Or.inr (Or.inr (Or.inr (Or.inr (Or.inr (Or.inr (Or.inr (Or.inr (Or.inr (Or.inr (Or.inr (Or.inr (Or.inr (Or.inr (Or.inr (Or.inr (Or.inr (Or.inr (Or.inr (Or.inr (Or.inr (Or.inr (Or.inl ⟨rfl, h, rfl, rfl⟩)))))))))))))))))))))))))))
theorem tx_28 {a b n cur op c1 o1 : Int} (h : tt 28 a b n cur op c1 o1) : (1 ≤ n ∧ n ≤ 20 * op - 8 ∧ b ≤ cur ∧ 0 ≤ b ∧ 1 ≤ op) ∧ c1 = cur - b + 1 ∧ o1 = op - 1 := by
  unfold tt at h
  rcases h with h | h | h | h | h | h | h | h | h | h | h | h | h | h | h | h | h | h | h | h | h | h | h | h | h | h | h | h | h <;> first | exact h.2 | (exfalso; have := h.1; omega)
theorem tt_29 {a b n cur op : Int} (h : 1 ≤ n ∧ n ≤ 20 * op - 8 ∧ b + 1 ≤ cur ∧ 0 ≤ b ∧ 1 ≤ op) : tt 29 a b n cur op (cur - b) (op - 1) := Or.inr (Or.inr (Or.inr (Or.inr (Or.inr (Or.inr (Or.inr (Or.inr (Or.inr (Or.inr (Or.inr (Or.inr (Or.inr (Or.inr (Or.inr (Or.inr (Or.inr (Or.inr (Or.inr (Or.inr (Or.inr (Or.inr (Or.inr (Or.inr (Or.inr (Or.inr (Or.inr (Or.inr (⟨rfl, h, rfl, rfl⟩))))))))))))))))))))))))))))
theorem tx_29 {a b n cur op c1 o1 : Int} (h : tt 29 a b n cur op c1 o1) : (1 ≤ n ∧ n ≤ 20 * op - 8 ∧ b + 1 ≤ cur ∧ 0 ≤ b ∧ 1 ≤ op) ∧ c1 = cur - b ∧ o1 = op - 1 := by
  unfold tt at h
  rcases h with h | h | h | h | h | h | h | h | h | h | h | h | h | h | h | h | h | h | h | h | h | h | h | h | h | h | h | h | h <;> first | exact h.2 | (exfalso; have := h.1; omega)
theorem tx_w {w a b n cur op c1 o1 : Int} (h : tt w a b n cur op c1 o1) : 1 ≤ w ∧ w ≤ 29 ∧ 0 ≤ op ∧ (0 ≤ n ∧ n ≤ 20 * op + 14 ∨ w = 21 ∨ w = 22 ∨ w = 23) := by
  unfold tt at h
  rcases h with h | h | h | h | h | h | h | h | h | h | h | h | h | h | h | h | h | h | h | h | h | h | h | h | h | h | h | h | h <;> (obtain ⟨h1, h2, h3, h4⟩ := h; omega)
/-- what a task holds -/
def td (F tp N tm ow : Int) (o fb pr ht rg bk : Nat → Int) (w a b c e : Int) : Prop :=
  (w = 1 → a = 0) ∧
  (w = 3 ∨ w = 4 → (a = F ∧ b = 0 ∧ F < 6) ∧ ((1 ≤ fb F.toNat ∧ fb F.toNat ≤ tm) ∧ rg (fb F.toNat).toNat = F ∧ ht (fb F.toNat).toNat = 0 ∧ bk (fb F.toNat).toNat = 0) ∧ (0 ≤ pr F.toNat ∧ pr F.toNat ≤ ow)) ∧
  (w = 8 ∨ w = 11 → (1 ≤ a ∧ a < N) ∧ o a.toNat = 14 ∧ rg a.toNat = F ∧ bk a.toNat = 0) ∧
  (w = 9 → (1 ≤ a ∧ a < N) ∧ o a.toNat = 15 ∧ rg a.toNat = F ∧ bk a.toNat = 0) ∧
  (w = 10 ∨ w = 11 → (1 ≤ b ∧ b ≤ tm) ∧ ht b.toNat = 0 ∧ rg b.toNat = F ∧ bk b.toNat = 0) ∧
  (w = 13 ∨ w = 14 → (b = 0 ∨ b = 1) ∧ ((100 ≤ a ∧ a < 112 ∧ b = 0) ∨ (0 ≤ a ∧ a < tp))) ∧
  (w = 7 ∨ w = 10 ∨ w = 16 ∨ w = 25 → -2147483648 ≤ a ∧ a < 2147483648) ∧
  (w = 4 ∨ w = 14 ∨ w = 23 ∨ w = 29 → -2147483648 ≤ c ∧ c < 2147483648) ∧
  (w = 19 ∨ w = 20 → a = 0 ∨ a = 1) ∧
  (w = 21 → 0 ≤ a ∧ a ≤ 8) ∧
  (w = 22 → 0 ≤ a ∧ a ≤ 7) ∧
  (w = 23 → (0 ≤ a ∧ a ≤ 7) ∧ isop b ∧ (e = 0 ∨ e = 1)) ∧
  (w = 27 → 0 ≤ a ∧ a < tp) ∧
  (w = 28 ∨ w = 29 → 0 ≤ a ∧ a < F)
/-- how many orders a task will say -/
def pdw (w : Int) : Int := if w = 11 then 2 else if w = 1 ∨ w = 2 ∨ w = 3 ∨ w = 4 ∨ w = 7 ∨ w = 10 ∨ w = 13 ∨ w = 14 ∨ w = 19 ∨ w = 20 ∨ w = 23 ∨ w = 25 ∨ w = 27 ∨ w = 28 ∨ w = 29 then 1 else 0
/-- how much a task weighs -/
def wtw (w a : Int) : Int := if w = 21 then 17 - 2 * a else if w = 17 then 19 else if w = 15 then 24 else if w = 28 then 22 else if w = 1 then 4 else if w = 23 then 2 else 1
def PD : List zE → Int
  | [] => 0
  | e :: st => pdw e.1 + PD st
def SW : List zE → Int
  | [] => 0
  | e :: st => wtw e.1 e.2.1 + SW st
theorem pdw_0 (w : Int) : 0 ≤ pdw w := by
  unfold pdw
  split
  · omega
  · split <;> omega
theorem PD_0 : ∀ st, 0 ≤ PD st := by
  intro st
  induction st with
  | nil => exact Int.le_refl 0
  | cons e st ih => have := pdw_0 e.1; show 0 ≤ pdw e.1 + PD st; omega
/-- the pile of tasks as a list, the top first -/
def sk (t ta tb tc te : Nat → Int) : List zE → Prop
  | [] => True
  | e :: st => (t st.length = e.1 ∧ ta st.length = e.2.1 ∧ tb st.length = e.2.2.1 ∧ tc st.length = e.2.2.2.1 ∧ te st.length = e.2.2.2.2) ∧ sk t ta tb tc te st
theorem sk_congr {t ta tb tc te t' ta' tb' tc' te' : Nat → Int} : ∀ {st : List zE}, (∀ j, j < st.length → t' j = t j ∧ ta' j = ta j ∧ tb' j = tb j ∧ tc' j = tc j ∧ te' j = te j) → sk t ta tb tc te st → sk t' ta' tb' tc' te' st := by
  intro st
  induction st with
  | nil => intro _ _; trivial
  | cons e st ih =>
    intro h hs
    obtain ⟨⟨q1, q2, q3, q4, q5⟩, hs⟩ := hs
    obtain ⟨e1, e2, e3, e4, e5⟩ := h st.length (by show st.length < st.length + 1; omega)
    exact ⟨⟨e1.trans q1, e2.trans q2, e3.trans q3, e4.trans q4, e5.trans q5⟩, ih (fun j hj => h j (by show j < st.length + 1; omega)) hs⟩
def skk (B : zF) (st : List zE) : Prop := (B 39 58) = (st.length : Int) ∧ sk (B 69) (B 70) (B 71) (B 72) (B 73) st ∧ st.length ≤ 2000
theorem skk_push {B : zF} {st : List zE} (h : skk B st) (hn : st.length < 2000) (w a b c e : Int) : skk (mW B st.length w a b c e) ((w, a, b, c, e) :: st) := by
  refine ⟨by show (st.length : Int) + 1 = ((st.length + 1 : Nat) : Int); omega, ⟨⟨?_, ?_, ?_, ?_, ?_⟩, sk_congr (fun j hj => ?_) h.2.1⟩, by show st.length + 1 ≤ 2000; omega⟩
  · rw [mW_ap]; simp
  · rw [mW_ap]; simp
  · rw [mW_ap]; simp
  · rw [mW_ap]; simp
  · rw [mW_ap]; simp
  · have : j ≠ st.length := by omega
    simp only [mW_ap]
    simp [this]
/-- the jumps that are still open -/
def pnd (st : List zE) (p : Nat) : Prop := ∃ e ∈ st, (e.1 = 1 ∨ e.1 = 8 ∨ e.1 = 9 ∨ e.1 = 11) ∧ e.2.1 = (p : Int)
theorem pnd_push {st : List zE} {p : Nat} (e : zE) (h : pnd st p) : pnd (e :: st) p := by
  obtain ⟨x, hx, h1⟩ := h
  exact ⟨x, List.mem_cons_of_mem _ hx, h1⟩
theorem pnd_pop {st : List zE} {p : Nat} {e : zE} (h : pnd (e :: st) p) (hn : ¬ ((e.1 = 1 ∨ e.1 = 8 ∨ e.1 = 9 ∨ e.1 = 11) ∧ e.2.1 = (p : Int))) : pnd st p := by
  obtain ⟨x, hx, h1⟩ := h
  rcases List.mem_cons.mp hx with rfl | hx
  · exact absurd h1 hn
  · exact ⟨x, hx, h1⟩
/-- the tasks fit each other -/
def WT : List zE → Int → Int → Prop
  | [], _, _ => False
  | e :: st, cur, op => ∃ c1 o1, tt e.1 e.2.1 e.2.2.1 (st.length : Int) cur op c1 o1 ∧ ((e.1 = 3 ∨ e.1 = 4) → st = [(1, 0, 0, 0, 0)]) ∧ ((e.1 = 1 ∨ e.1 = 2) ∨ WT st c1 o1)
theorem WT_cons {w a b c e : Int} {st : List zE} {cur op c1 o1 : Int} (h : tt w a b (st.length : Int) cur op c1 o1) (hs : WT st c1 o1) (h3 : (w = 3 ∨ w = 4) → st = [(1, 0, 0, 0, 0)] := by intro z; omega) : WT ((w, a, b, c, e) :: st) cur op := ⟨c1, o1, h, h3, Or.inr hs⟩
/-- all tasks hold what they must -/
def TD (F tp N tm ow : Int) (o fb pr ht rg bk : Nat → Int) (st : List zE) : Prop := ∀ e ∈ st, td F tp N tm ow o fb pr ht rg bk e.1 e.2.1 e.2.2.1 e.2.2.2.1 e.2.2.2.2
theorem TD_cons {F tp N tm ow : Int} {o fb pr ht rg bk : Nat → Int} {st : List zE} {w a b c e : Int} (h : td F tp N tm ow o fb pr ht rg bk w a b c e) (hs : TD F tp N tm ow o fb pr ht rg bk st) : TD F tp N tm ow o fb pr ht rg bk ((w, a, b, c, e) :: st) := by
  intro x hx
  rcases List.mem_cons.mp hx with rfl | hx
  · exact h
  · exact hs x hx
theorem TD_tl {F tp N tm ow : Int} {o fb pr ht rg bk : Nat → Int} {st : List zE} {x : zE} (h : TD F tp N tm ow o fb pr ht rg bk (x :: st)) : TD F tp N tm ow o fb pr ht rg bk st := fun e he => h e (List.mem_cons_of_mem _ he)
theorem td_mono {F tp tp' N N' tm tm' ow ow' : Int} {o fb pr ht rg bk o' ht' rg' bk' : Nat → Int} {w a b c e : Int} (h : td F tp N tm ow o fb pr ht rg bk w a b c e) (h1 : tp ≤ tp') (h2 : N ≤ N') (h3 : tm ≤ tm') (h4 : ow ≤ ow') (hm : tm ≤ N) (e1 : ∀ j : Nat, (j : Int) < N → o' j = o j) (e2 : ∀ j : Nat, 1 ≤ j → (j : Int) ≤ N → ht' j = ht j ∧ rg' j = rg j) (e3 : ∀ j : Nat, (j : Int) < N ∨ (j : Int) ≤ tm → bk' j = bk j) : td F tp' N' tm' ow' o' fb pr ht' rg' bk' w a b c e := by
  obtain ⟨q1, q2, q3, q4, q5, q6, q7, q8, q9, q10, q11, q12, q13, q14⟩ := h
  refine ⟨q1, fun z => ?_, fun z => ?_, fun z => ?_, fun z => ?_, fun z => ?_, q7, q8, q9, q10, q11, q12, fun z => ?_, q14⟩
  · obtain ⟨p1, ⟨⟨p2, p3⟩, p4, p5, p6⟩, p7⟩ := q2 z
    obtain ⟨r1, r2⟩ := e2 (fb F.toNat).toNat (by omega) (by omega)
    rw [r1, r2, e3 _ (by omega)]
    exact ⟨p1, ⟨⟨p2, by omega⟩, p4, p5, p6⟩, by omega⟩
  · obtain ⟨⟨p1, p2⟩, p3, p4, p5⟩ := q3 z
    obtain ⟨r1, r2⟩ := e2 a.toNat (by omega) (by omega)
    rw [r2, e1 _ (by omega), e3 _ (by omega)]
    exact ⟨⟨p1, by omega⟩, p3, p4, p5⟩
  · obtain ⟨⟨p1, p2⟩, p3, p4, p5⟩ := q4 z
    obtain ⟨r1, r2⟩ := e2 a.toNat (by omega) (by omega)
    rw [r2, e1 _ (by omega), e3 _ (by omega)]
    exact ⟨⟨p1, by omega⟩, p3, p4, p5⟩
  · obtain ⟨⟨p1, p2⟩, p3, p4, p5⟩ := q5 z
    obtain ⟨r1, r2⟩ := e2 b.toNat (by omega) (by omega)
    rw [r1, r2, e3 _ (by omega)]
    exact ⟨⟨p1, by omega⟩, p3, p4, p5⟩
  · obtain ⟨p1, p2⟩ := q6 z
    exact ⟨p1, by omega⟩
  · have := q13 z
    omega
theorem TD_mono {F tp tp' N N' tm tm' ow ow' : Int} {o fb pr ht rg bk o' ht' rg' bk' : Nat → Int} {st : List zE} (h : TD F tp N tm ow o fb pr ht rg bk st) (h1 : tp ≤ tp') (h2 : N ≤ N') (h3 : tm ≤ tm') (h4 : ow ≤ ow') (hm : tm ≤ N) (e1 : ∀ j : Nat, (j : Int) < N → o' j = o j) (e2 : ∀ j : Nat, 1 ≤ j → (j : Int) ≤ N → ht' j = ht j ∧ rg' j = rg j) (e3 : ∀ j : Nat, (j : Int) < N ∨ (j : Int) ≤ tm → bk' j = bk j) : TD F tp' N' tm' ow' o' fb pr ht' rg' bk' st := fun e he => td_mono (h e he) h1 h2 h3 h4 hm e1 e2 e3
/-- tasks that hold nothing -/
theorem td_0 {F tp N tm ow : Int} {o fb pr ht rg bk : Nat → Int} {w a b c e : Int} (hw : w = 2 ∨ w = 5 ∨ w = 6 ∨ w = 12 ∨ w = 15 ∨ w = 17 ∨ w = 18 ∨ w = 24 ∨ w = 26) : td F tp N tm ow o fb pr ht rg bk w a b c e := by
  refine ⟨?_, ?_, ?_, ?_, ?_, ?_, ?_, ?_, ?_, ?_, ?_, ?_, ?_, ?_⟩ <;> (intro z; omega)
