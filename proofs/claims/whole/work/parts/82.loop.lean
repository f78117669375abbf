/-! 82: the loop of the law, and its start -/
def nq_OPS (R : Mem → Mem → Prop) : Prop :=
  (∀  (Mx Mm : Mem), R Mx Mm → ∃ (r : Int32) (Mx1 Mm1 : Mem), fX8_place  Mx = some (r, Mx1) ∧ fX9_place  Mm = some (r, Mm1) ∧ R Mx1 Mm1) ∧
  (∀ (a0 : Int32) (a1 : Int32) (a2 : Int32) (Mx Mm : Mem), R Mx Mm → ∃ (r : Int32) (Mx1 Mm1 : Mem), fX8_near a0 a1 a2 Mx = some (r, Mx1) ∧ fX9_near a0 a1 a2 Mm = some (r, Mm1) ∧ R Mx1 Mm1) ∧
  (∀ (a0 : Int32) (a1 : Int32) (Mx Mm : Mem), R Mx Mm → ∃ (r : Int32) (Mx1 Mm1 : Mem), fX8_way a0 a1 Mx = some (r, Mx1) ∧ fX9_way a0 a1 Mm = some (r, Mm1) ∧ R Mx1 Mm1) ∧
  (∀ (a0 : Int32) (a1 : Int32) (a2 : Int32) (Mx Mm : Mem), R Mx Mm → ∃ (r : Int32) (Mx1 Mm1 : Mem), fX8_route a0 a1 a2 Mx = some (r, Mx1) ∧ fX9_route a0 a1 a2 Mm = some (r, Mm1) ∧ R Mx1 Mm1) ∧
  (∀ (a0 : Int32) (a1 : Int32) (Mx Mm : Mem), R Mx Mm → ∃ (r : Int32) (Mx1 Mm1 : Mem), fX8_rule a0 a1 Mx = some (r, Mx1) ∧ fX9_rule a0 a1 Mm = some (r, Mm1) ∧ R Mx1 Mm1) ∧
  (∀ (a0 : Int32) (Mx Mm : Mem), R Mx Mm → ∃ (r : Int32) (Mx1 Mm1 : Mem), fX8_loss a0 Mx = some (r, Mx1) ∧ fX9_loss a0 Mm = some (r, Mm1) ∧ R Mx1 Mm1) ∧
  (∀ (a0 : Int32) (a1 : Int32) (a2 : Int32) (Mx Mm : Mem), R Mx Mm → ∃ (r : Int32) (Mx1 Mm1 : Mem), fX8_word a0 a1 a2 Mx = some (r, Mx1) ∧ fX9_word a0 a1 a2 Mm = some (r, Mm1) ∧ R Mx1 Mm1) ∧
  (∀ (a0 : Int32) (a1 : Int32) (Mx Mm : Mem), R Mx Mm → ∃ (r : Int32) (Mx1 Mm1 : Mem), fX8_ofWord a0 a1 Mx = some (r, Mx1) ∧ fX9_ofWord a0 a1 Mm = some (r, Mm1) ∧ R Mx1 Mm1) ∧
  (∀ (a0 : Int32) (Mx Mm : Mem), R Mx Mm → ∃ (r : Int32) (Mx1 Mm1 : Mem), fX8_lose a0 Mx = some (r, Mx1) ∧ fX9_lose a0 Mm = some (r, Mm1) ∧ R Mx1 Mm1) ∧
  (∀ (a0 : Int32) (a1 : Int32) (Mx Mm : Mem), R Mx Mm → ∃ (r : Int32) (Mx1 Mm1 : Mem), fX8_as a0 a1 Mx = some (r, Mx1) ∧ fX9_as a0 a1 Mm = some (r, Mm1) ∧ R Mx1 Mm1) ∧
  (∀ (a0 : Int32) (Mx Mm : Mem), R Mx Mm → ∃ (r : Int32) (Mx1 Mm1 : Mem), fX8_words a0 Mx = some (r, Mx1) ∧ fX9_words a0 Mm = some (r, Mm1) ∧ R Mx1 Mm1) ∧
  (∀ (a0 : Int32) (a1 : Int32) (a2 : Int32) (Mx Mm : Mem), R Mx Mm → ∃ (r : Int32) (Mx1 Mm1 : Mem), fX8_came a0 a1 a2 Mx = some (r, Mx1) ∧ fX9_came a0 a1 a2 Mm = some (r, Mm1) ∧ R Mx1 Mm1) ∧
  (∀ (a0 : Int32) (a1 : Int32) (a2 : Int32) (Mx Mm : Mem), R Mx Mm → ∃ (r : Int32) (Mx1 Mm1 : Mem), fX8_stance a0 a1 a2 Mx = some (r, Mx1) ∧ fX9_stance a0 a1 a2 Mm = some (r, Mm1) ∧ R Mx1 Mm1) ∧
  (∀ (a0 : Int32) (a1 : Int32) (a2 : Int32) (Mx Mm : Mem), R Mx Mm → ∃ (r : Int32) (Mx1 Mm1 : Mem), fX8_made a0 a1 a2 Mx = some (r, Mx1) ∧ fX9_made a0 a1 a2 Mm = some (r, Mm1) ∧ R Mx1 Mm1) ∧
  (∀ (a0 : Int32) (a1 : Int32) (a2 : Int32) (Mx Mm : Mem), R Mx Mm → ∃ (r : Int32) (Mx1 Mm1 : Mem), fX8_knows a0 a1 a2 Mx = some (r, Mx1) ∧ fX9_knows a0 a1 a2 Mm = some (r, Mm1) ∧ R Mx1 Mm1) ∧
  (∀ (a0 : Int64) (a1 : Int32) (Mx Mm : Mem), R Mx Mm → ∃ (r : Int32) (Mx1 Mm1 : Mem), fX8_feed a0 a1 Mx = some (r, Mx1) ∧ fX9_feed a0 a1 Mm = some (r, Mm1) ∧ R Mx1 Mm1) ∧
  (∀ (a0 : Int32) (Mx Mm : Mem), R Mx Mm → ∃ (r : Int32) (Mx1 Mm1 : Mem), fX8_text a0 Mx = some (r, Mx1) ∧ fX9_text a0 Mm = some (r, Mm1) ∧ R Mx1 Mm1) ∧
  (∀ (a0 : Int32) (a1 : Int32) (a2 : Int32) (Mx Mm : Mem), R Mx Mm → ∃ (r : Int32) (Mx1 Mm1 : Mem), fX8_law a0 a1 a2 Mx = some (r, Mx1) ∧ fX9_law a0 a1 a2 Mm = some (r, Mm1) ∧ R Mx1 Mm1) ∧
  (∀ (a0 : Int32) (a1 : Int32) (Mx Mm : Mem), R Mx Mm → ∃ (r : Int32) (Mx1 Mm1 : Mem), fX8_aim a0 a1 Mx = some (r, Mx1) ∧ fX9_aim a0 a1 Mm = some (r, Mm1) ∧ R Mx1 Mm1) ∧
  (∀ (a0 : Int32) (Mx Mm : Mem), R Mx Mm → ∃ (r : Int32) (Mx1 Mm1 : Mem), fX8_live a0 Mx = some (r, Mx1) ∧ fX9_live a0 Mm = some (r, Mm1) ∧ R Mx1 Mm1) ∧
  (∀ (a0 : Int32) (a1 : Int32) (a2 : Int32) (Mx Mm : Mem), R Mx Mm → ∃ (r : Int32) (Mx1 Mm1 : Mem), fX8_soon a0 a1 a2 Mx = some (r, Mx1) ∧ fX9_soon a0 a1 a2 Mm = some (r, Mm1) ∧ R Mx1 Mm1) ∧
  (∀ (a0 : Int32) (a1 : Int32) (a2 : Int32) (Mx Mm : Mem), R Mx Mm → ∃ (r : Int64) (Mx1 Mm1 : Mem), fX8_odds a0 a1 a2 Mx = some (r, Mx1) ∧ fX9_odds a0 a1 a2 Mm = some (r, Mm1) ∧ R Mx1 Mm1) ∧
  (∀ (a0 : Int32) (a1 : Int32) (Mx Mm : Mem), R Mx Mm → ∃ (r : Int32) (Mx1 Mm1 : Mem), fX8_enough a0 a1 Mx = some (r, Mx1) ∧ fX9_enough a0 a1 Mm = some (r, Mm1) ∧ R Mx1 Mm1) ∧
  (∀ (a0 : Int32) (a1 : Int32) (Mx Mm : Mem), R Mx Mm → ∃ (r : Int32) (Mx1 Mm1 : Mem), fX8_pays a0 a1 Mx = some (r, Mx1) ∧ fX9_pays a0 a1 Mm = some (r, Mm1) ∧ R Mx1 Mm1) ∧
  (∀ (a0 : Int32) (Mx Mm : Mem), R Mx Mm → ∃ (r : Int32) (Mx1 Mm1 : Mem), fX8_rest a0 Mx = some (r, Mx1) ∧ fX9_rest a0 Mm = some (r, Mm1) ∧ R Mx1 Mm1) ∧
  (∀ (a0 : Int32) (a1 : Int32) (a2 : Int32) (Mx Mm : Mem), R Mx Mm → ∃ (r : Int32) (Mx1 Mm1 : Mem), fX8_answer a0 a1 a2 Mx = some (r, Mx1) ∧ fX9_answer a0 a1 a2 Mm = some (r, Mm1) ∧ R Mx1 Mm1) ∧
  (∀ (a0 : Int32) (a1 : Int32) (Mx Mm : Mem), R Mx Mm → ∃ (r : Int32) (Mx1 Mm1 : Mem), fX8_work a0 a1 Mx = some (r, Mx1) ∧ fX9_work a0 a1 Mm = some (r, Mm1) ∧ R Mx1 Mm1) ∧
  (∀ (a0 : Int32) (a1 : Int32) (Mx Mm : Mem), R Mx Mm → ∃ (r : Int32) (Mx1 Mm1 : Mem), fX8_blind a0 a1 Mx = some (r, Mx1) ∧ fX9_blind a0 a1 Mm = some (r, Mm1) ∧ R Mx1 Mm1) ∧
  (∀ (a0 : Int32) (a1 : Int32) (Mx Mm : Mem), R Mx Mm → ∃ (r : Int32) (Mx1 Mm1 : Mem), fX8_edge a0 a1 Mx = some (r, Mx1) ∧ fX9_edge a0 a1 Mm = some (r, Mm1) ∧ R Mx1 Mm1) ∧
  (∀ (a0 : Int32) (a1 : Int32) (Mx Mm : Mem), R Mx Mm → ∃ (r : Int32) (Mx1 Mm1 : Mem), fX8_minds a0 a1 Mx = some (r, Mx1) ∧ fX9_minds a0 a1 Mm = some (r, Mm1) ∧ R Mx1 Mm1) ∧
  (∀ (a0 : Int32) (a1 : Int32) (a2 : Int32) (Mx Mm : Mem), R Mx Mm → ∃ (r : Int64) (Mx1 Mm1 : Mem), fX8_heirs a0 a1 a2 Mx = some (r, Mx1) ∧ fX9_heirs a0 a1 a2 Mm = some (r, Mm1) ∧ R Mx1 Mm1) ∧
  (∀ (a0 : Int32) (a1 : Int32) (a2 : Int32) (Mx Mm : Mem), R Mx Mm → ∃ (r : Int32) (Mx1 Mm1 : Mem), fX8_goods a0 a1 a2 Mx = some (r, Mx1) ∧ fX9_goods a0 a1 a2 Mm = some (r, Mm1) ∧ R Mx1 Mm1) ∧
  (∀ (a0 : Int32) (Mx Mm : Mem), R Mx Mm → ∃ (r : Int32) (Mx1 Mm1 : Mem), fX8_seed a0 Mx = some (r, Mx1) ∧ fX9_seed a0 Mm = some (r, Mm1) ∧ R Mx1 Mm1) ∧
  (∀ (a0 : Int32) (a1 : Int32) (a2 : Int32) (Mx Mm : Mem), R Mx Mm → ∃ (r : Int32) (Mx1 Mm1 : Mem), fX8_voice a0 a1 a2 Mx = some (r, Mx1) ∧ fX9_voice a0 a1 a2 Mm = some (r, Mm1) ∧ R Mx1 Mm1) ∧
  (∀ (a0 : Int32) (Mx Mm : Mem), R Mx Mm → ∃ (r : Int32) (Mx1 Mm1 : Mem), fX8_trace a0 Mx = some (r, Mx1) ∧ fX9_trace a0 Mm = some (r, Mm1) ∧ R Mx1 Mm1) ∧
  (∀ (a0 : Int32) (a1 : Int32) (a2 : Int32) (Mx Mm : Mem), R Mx Mm → ∃ (r : Int32) (Mx1 Mm1 : Mem), fX8_sheet a0 a1 a2 Mx = some (r, Mx1) ∧ fX9_sheet a0 a1 a2 Mm = some (r, Mm1) ∧ R Mx1 Mm1) ∧
  (∀ (a0 : Int32) (a1 : Int32) (a2 : Int32) (Mx Mm : Mem), R Mx Mm → ∃ (r : Int32) (Mx1 Mm1 : Mem), fX8_put a0 a1 a2 Mx = some (r, Mx1) ∧ fX9_put a0 a1 a2 Mm = some (r, Mm1) ∧ R Mx1 Mm1) ∧
  (∀ (a0 : Int32) (a1 : Int32) (a2 : Int32) (a3 : Int32) (a4 : Int32) (Mx Mm : Mem), R Mx Mm → ∃ (r : Int32) (Mx1 Mm1 : Mem), fX8_move a0 a1 a2 a3 a4 Mx = some (r, Mx1) ∧ fX9_move a0 a1 a2 a3 a4 Mm = some (r, Mm1) ∧ R Mx1 Mm1) ∧
  (∀  (Mx Mm : Mem), R Mx Mm → ∃ (r : Int32) (Mx1 Mm1 : Mem), fX8_image  Mx = some (r, Mx1) ∧ fX9_image  Mm = some (r, Mm1) ∧ R Mx1 Mm1) ∧
  (∀  (Mx Mm : Mem), R Mx Mm → ∃ (r : Int32) (Mx1 Mm1 : Mem), fX8_restore  Mx = some (r, Mx1) ∧ fX9_restore  Mm = some (r, Mm1) ∧ R Mx1 Mm1) ∧
  (∀ (a0 : Int32) (Mx Mm : Mem), R Mx Mm → ∃ (r : Int32) (Mx1 Mm1 : Mem), fX8_tell a0 Mx = some (r, Mx1) ∧ fX9_tell a0 Mm = some (r, Mm1) ∧ R Mx1 Mm1) ∧
  (∀ (a0 : Int32) (a1 : Int32) (Mx Mm : Mem), R Mx Mm → ∃ (r : Int32) (Mx1 Mm1 : Mem), fX8_check a0 a1 Mx = some (r, Mx1) ∧ fX9_check a0 a1 Mm = some (r, Mm1) ∧ R Mx1 Mm1) ∧
  (∀ (a0 : Int32) (Mx Mm : Mem), R Mx Mm → ∃ (r : Int32) (Mx1 Mm1 : Mem), fX8_count a0 Mx = some (r, Mx1) ∧ fX9_count a0 Mm = some (r, Mm1) ∧ R Mx1 Mm1) ∧
  (∀ (a0 : Int32) (Mx Mm : Mem), R Mx Mm → ∃ (r : Int32) (Mx1 Mm1 : Mem), fX8_told a0 Mx = some (r, Mx1) ∧ fX9_told a0 Mm = some (r, Mm1) ∧ R Mx1 Mm1)
theorem op_place {R : Mem → Mem → Prop} (h : nq_OPS R) : ∀  (Mx Mm : Mem), R Mx Mm → ∃ (r : Int32) (Mx1 Mm1 : Mem), fX8_place  Mx = some (r, Mx1) ∧ fX9_place  Mm = some (r, Mm1) ∧ R Mx1 Mm1 := h.1
theorem op_near {R : Mem → Mem → Prop} (h : nq_OPS R) : ∀ (a0 : Int32) (a1 : Int32) (a2 : Int32) (Mx Mm : Mem), R Mx Mm → ∃ (r : Int32) (Mx1 Mm1 : Mem), fX8_near a0 a1 a2 Mx = some (r, Mx1) ∧ fX9_near a0 a1 a2 Mm = some (r, Mm1) ∧ R Mx1 Mm1 := h.2.1
theorem op_way {R : Mem → Mem → Prop} (h : nq_OPS R) : ∀ (a0 : Int32) (a1 : Int32) (Mx Mm : Mem), R Mx Mm → ∃ (r : Int32) (Mx1 Mm1 : Mem), fX8_way a0 a1 Mx = some (r, Mx1) ∧ fX9_way a0 a1 Mm = some (r, Mm1) ∧ R Mx1 Mm1 := h.2.2.1
theorem op_route {R : Mem → Mem → Prop} (h : nq_OPS R) : ∀ (a0 : Int32) (a1 : Int32) (a2 : Int32) (Mx Mm : Mem), R Mx Mm → ∃ (r : Int32) (Mx1 Mm1 : Mem), fX8_route a0 a1 a2 Mx = some (r, Mx1) ∧ fX9_route a0 a1 a2 Mm = some (r, Mm1) ∧ R Mx1 Mm1 := h.2.2.2.1
theorem op_rule {R : Mem → Mem → Prop} (h : nq_OPS R) : ∀ (a0 : Int32) (a1 : Int32) (Mx Mm : Mem), R Mx Mm → ∃ (r : Int32) (Mx1 Mm1 : Mem), fX8_rule a0 a1 Mx = some (r, Mx1) ∧ fX9_rule a0 a1 Mm = some (r, Mm1) ∧ R Mx1 Mm1 := h.2.2.2.2.1
theorem op_loss {R : Mem → Mem → Prop} (h : nq_OPS R) : ∀ (a0 : Int32) (Mx Mm : Mem), R Mx Mm → ∃ (r : Int32) (Mx1 Mm1 : Mem), fX8_loss a0 Mx = some (r, Mx1) ∧ fX9_loss a0 Mm = some (r, Mm1) ∧ R Mx1 Mm1 := h.2.2.2.2.2.1
theorem op_word {R : Mem → Mem → Prop} (h : nq_OPS R) : ∀ (a0 : Int32) (a1 : Int32) (a2 : Int32) (Mx Mm : Mem), R Mx Mm → ∃ (r : Int32) (Mx1 Mm1 : Mem), fX8_word a0 a1 a2 Mx = some (r, Mx1) ∧ fX9_word a0 a1 a2 Mm = some (r, Mm1) ∧ R Mx1 Mm1 := h.2.2.2.2.2.2.1
theorem op_ofWord {R : Mem → Mem → Prop} (h : nq_OPS R) : ∀ (a0 : Int32) (a1 : Int32) (Mx Mm : Mem), R Mx Mm → ∃ (r : Int32) (Mx1 Mm1 : Mem), fX8_ofWord a0 a1 Mx = some (r, Mx1) ∧ fX9_ofWord a0 a1 Mm = some (r, Mm1) ∧ R Mx1 Mm1 := h.2.2.2.2.2.2.2.1
theorem op_lose {R : Mem → Mem → Prop} (h : nq_OPS R) : ∀ (a0 : Int32) (Mx Mm : Mem), R Mx Mm → ∃ (r : Int32) (Mx1 Mm1 : Mem), fX8_lose a0 Mx = some (r, Mx1) ∧ fX9_lose a0 Mm = some (r, Mm1) ∧ R Mx1 Mm1 := h.2.2.2.2.2.2.2.2.1
theorem op_as {R : Mem → Mem → Prop} (h : nq_OPS R) : ∀ (a0 : Int32) (a1 : Int32) (Mx Mm : Mem), R Mx Mm → ∃ (r : Int32) (Mx1 Mm1 : Mem), fX8_as a0 a1 Mx = some (r, Mx1) ∧ fX9_as a0 a1 Mm = some (r, Mm1) ∧ R Mx1 Mm1 := h.2.2.2.2.2.2.2.2.2.1
theorem op_words {R : Mem → Mem → Prop} (h : nq_OPS R) : ∀ (a0 : Int32) (Mx Mm : Mem), R Mx Mm → ∃ (r : Int32) (Mx1 Mm1 : Mem), fX8_words a0 Mx = some (r, Mx1) ∧ fX9_words a0 Mm = some (r, Mm1) ∧ R Mx1 Mm1 := h.2.2.2.2.2.2.2.2.2.2.1
theorem op_came {R : Mem → Mem → Prop} (h : nq_OPS R) : ∀ (a0 : Int32) (a1 : Int32) (a2 : Int32) (Mx Mm : Mem), R Mx Mm → ∃ (r : Int32) (Mx1 Mm1 : Mem), fX8_came a0 a1 a2 Mx = some (r, Mx1) ∧ fX9_came a0 a1 a2 Mm = some (r, Mm1) ∧ R Mx1 Mm1 := h.2.2.2.2.2.2.2.2.2.2.2.1
theorem op_stance {R : Mem → Mem → Prop} (h : nq_OPS R) : ∀ (a0 : Int32) (a1 : Int32) (a2 : Int32) (Mx Mm : Mem), R Mx Mm → ∃ (r : Int32) (Mx1 Mm1 : Mem), fX8_stance a0 a1 a2 Mx = some (r, Mx1) ∧ fX9_stance a0 a1 a2 Mm = some (r, Mm1) ∧ R Mx1 Mm1 := h.2.2.2.2.2.2.2.2.2.2.2.2.1
theorem op_made {R : Mem → Mem → Prop} (h : nq_OPS R) : ∀ (a0 : Int32) (a1 : Int32) (a2 : Int32) (Mx Mm : Mem), R Mx Mm → ∃ (r : Int32) (Mx1 Mm1 : Mem), fX8_made a0 a1 a2 Mx = some (r, Mx1) ∧ fX9_made a0 a1 a2 Mm = some (r, Mm1) ∧ R Mx1 Mm1 := h.2.2.2.2.2.2.2.2.2.2.2.2.2.1
theorem op_knows {R : Mem → Mem → Prop} (h : nq_OPS R) : ∀ (a0 : Int32) (a1 : Int32) (a2 : Int32) (Mx Mm : Mem), R Mx Mm → ∃ (r : Int32) (Mx1 Mm1 : Mem), fX8_knows a0 a1 a2 Mx = some (r, Mx1) ∧ fX9_knows a0 a1 a2 Mm = some (r, Mm1) ∧ R Mx1 Mm1 := h.2.2.2.2.2.2.2.2.2.2.2.2.2.2.1
theorem op_feed {R : Mem → Mem → Prop} (h : nq_OPS R) : ∀ (a0 : Int64) (a1 : Int32) (Mx Mm : Mem), R Mx Mm → ∃ (r : Int32) (Mx1 Mm1 : Mem), fX8_feed a0 a1 Mx = some (r, Mx1) ∧ fX9_feed a0 a1 Mm = some (r, Mm1) ∧ R Mx1 Mm1 := h.2.2.2.2.2.2.2.2.2.2.2.2.2.2.2.1
theorem op_text {R : Mem → Mem → Prop} (h : nq_OPS R) : ∀ (a0 : Int32) (Mx Mm : Mem), R Mx Mm → ∃ (r : Int32) (Mx1 Mm1 : Mem), fX8_text a0 Mx = some (r, Mx1) ∧ fX9_text a0 Mm = some (r, Mm1) ∧ R Mx1 Mm1 := h.2.2.2.2.2.2.2.2.2.2.2.2.2.2.2.2.1
theorem op_law {R : Mem → Mem → Prop} (h : nq_OPS R) : ∀ (a0 : Int32) (a1 : Int32) (a2 : Int32) (Mx Mm : Mem), R Mx Mm → ∃ (r : Int32) (Mx1 Mm1 : Mem), fX8_law a0 a1 a2 Mx = some (r, Mx1) ∧ fX9_law a0 a1 a2 Mm = some (r, Mm1) ∧ R Mx1 Mm1 := h.2.2.2.2.2.2.2.2.2.2.2.2.2.2.2.2.2.1
theorem op_aim {R : Mem → Mem → Prop} (h : nq_OPS R) : ∀ (a0 : Int32) (a1 : Int32) (Mx Mm : Mem), R Mx Mm → ∃ (r : Int32) (Mx1 Mm1 : Mem), fX8_aim a0 a1 Mx = some (r, Mx1) ∧ fX9_aim a0 a1 Mm = some (r, Mm1) ∧ R Mx1 Mm1 := h.2.2.2.2.2.2.2.2.2.2.2.2.2.2.2.2.2.2.1
theorem op_live {R : Mem → Mem → Prop} (h : nq_OPS R) : ∀ (a0 : Int32) (Mx Mm : Mem), R Mx Mm → ∃ (r : Int32) (Mx1 Mm1 : Mem), fX8_live a0 Mx = some (r, Mx1) ∧ fX9_live a0 Mm = some (r, Mm1) ∧ R Mx1 Mm1 := h.2.2.2.2.2.2.2.2.2.2.2.2.2.2.2.2.2.2.2.1
theorem op_soon {R : Mem → Mem → Prop} (h : nq_OPS R) : ∀ (a0 : Int32) (a1 : Int32) (a2 : Int32) (Mx Mm : Mem), R Mx Mm → ∃ (r : Int32) (Mx1 Mm1 : Mem), fX8_soon a0 a1 a2 Mx = some (r, Mx1) ∧ fX9_soon a0 a1 a2 Mm = some (r, Mm1) ∧ R Mx1 Mm1 := h.2.2.2.2.2.2.2.2.2.2.2.2.2.2.2.2.2.2.2.2.1
theorem op_odds {R : Mem → Mem → Prop} (h : nq_OPS R) : ∀ (a0 : Int32) (a1 : Int32) (a2 : Int32) (Mx Mm : Mem), R Mx Mm → ∃ (r : Int64) (Mx1 Mm1 : Mem), fX8_odds a0 a1 a2 Mx = some (r, Mx1) ∧ fX9_odds a0 a1 a2 Mm = some (r, Mm1) ∧ R Mx1 Mm1 := h.2.2.2.2.2.2.2.2.2.2.2.2.2.2.2.2.2.2.2.2.2.1
theorem op_enough {R : Mem → Mem → Prop} (h : nq_OPS R) : ∀ (a0 : Int32) (a1 : Int32) (Mx Mm : Mem), R Mx Mm → ∃ (r : Int32) (Mx1 Mm1 : Mem), fX8_enough a0 a1 Mx = some (r, Mx1) ∧ fX9_enough a0 a1 Mm = some (r, Mm1) ∧ R Mx1 Mm1 := h.2.2.2.2.2.2.2.2.2.2.2.2.2.2.2.2.2.2.2.2.2.2.1
theorem op_pays {R : Mem → Mem → Prop} (h : nq_OPS R) : ∀ (a0 : Int32) (a1 : Int32) (Mx Mm : Mem), R Mx Mm → ∃ (r : Int32) (Mx1 Mm1 : Mem), fX8_pays a0 a1 Mx = some (r, Mx1) ∧ fX9_pays a0 a1 Mm = some (r, Mm1) ∧ R Mx1 Mm1 := h.2.2.2.2.2.2.2.2.2.2.2.2.2.2.2.2.2.2.2.2.2.2.2.1
theorem op_rest {R : Mem → Mem → Prop} (h : nq_OPS R) : ∀ (a0 : Int32) (Mx Mm : Mem), R Mx Mm → ∃ (r : Int32) (Mx1 Mm1 : Mem), fX8_rest a0 Mx = some (r, Mx1) ∧ fX9_rest a0 Mm = some (r, Mm1) ∧ R Mx1 Mm1 := h.2.2.2.2.2.2.2.2.2.2.2.2.2.2.2.2.2.2.2.2.2.2.2.2.1
theorem op_answer {R : Mem → Mem → Prop} (h : nq_OPS R) : ∀ (a0 : Int32) (a1 : Int32) (a2 : Int32) (Mx Mm : Mem), R Mx Mm → ∃ (r : Int32) (Mx1 Mm1 : Mem), fX8_answer a0 a1 a2 Mx = some (r, Mx1) ∧ fX9_answer a0 a1 a2 Mm = some (r, Mm1) ∧ R Mx1 Mm1 := h.2.2.2.2.2.2.2.2.2.2.2.2.2.2.2.2.2.2.2.2.2.2.2.2.2.1
theorem op_work {R : Mem → Mem → Prop} (h : nq_OPS R) : ∀ (a0 : Int32) (a1 : Int32) (Mx Mm : Mem), R Mx Mm → ∃ (r : Int32) (Mx1 Mm1 : Mem), fX8_work a0 a1 Mx = some (r, Mx1) ∧ fX9_work a0 a1 Mm = some (r, Mm1) ∧ R Mx1 Mm1 := h.2.2.2.2.2.2.2.2.2.2.2.2.2.2.2.2.2.2.2.2.2.2.2.2.2.2.1
theorem op_blind {R : Mem → Mem → Prop} (h : nq_OPS R) : ∀ (a0 : Int32) (a1 : Int32) (Mx Mm : Mem), R Mx Mm → ∃ (r : Int32) (Mx1 Mm1 : Mem), fX8_blind a0 a1 Mx = some (r, Mx1) ∧ fX9_blind a0 a1 Mm = some (r, Mm1) ∧ R Mx1 Mm1 := h.2.2.2.2.2.2.2.2.2.2.2.2.2.2.2.2.2.2.2.2.2.2.2.2.2.2.2.1
theorem op_edge {R : Mem → Mem → Prop} (h : nq_OPS R) : ∀ (a0 : Int32) (a1 : Int32) (Mx Mm : Mem), R Mx Mm → ∃ (r : Int32) (Mx1 Mm1 : Mem), fX8_edge a0 a1 Mx = some (r, Mx1) ∧ fX9_edge a0 a1 Mm = some (r, Mm1) ∧ R Mx1 Mm1 := h.2.2.2.2.2.2.2.2.2.2.2.2.2.2.2.2.2.2.2.2.2.2.2.2.2.2.2.2.1
theorem op_minds {R : Mem → Mem → Prop} (h : nq_OPS R) : ∀ (a0 : Int32) (a1 : Int32) (Mx Mm : Mem), R Mx Mm → ∃ (r : Int32) (Mx1 Mm1 : Mem), fX8_minds a0 a1 Mx = some (r, Mx1) ∧ fX9_minds a0 a1 Mm = some (r, Mm1) ∧ R Mx1 Mm1 := h.2.2.2.2.2.2.2.2.2.2.2.2.2.2.2.2.2.2.2.2.2.2.2.2.2.2.2.2.2.1
theorem op_heirs {R : Mem → Mem → Prop} (h : nq_OPS R) : ∀ (a0 : Int32) (a1 : Int32) (a2 : Int32) (Mx Mm : Mem), R Mx Mm → ∃ (r : Int64) (Mx1 Mm1 : Mem), fX8_heirs a0 a1 a2 Mx = some (r, Mx1) ∧ fX9_heirs a0 a1 a2 Mm = some (r, Mm1) ∧ R Mx1 Mm1 := h.2.2.2.2.2.2.2.2.2.2.2.2.2.2.2.2.2.2.2.2.2.2.2.2.2.2.2.2.2.2.1
theorem op_goods {R : Mem → Mem → Prop} (h : nq_OPS R) : ∀ (a0 : Int32) (a1 : Int32) (a2 : Int32) (Mx Mm : Mem), R Mx Mm → ∃ (r : Int32) (Mx1 Mm1 : Mem), fX8_goods a0 a1 a2 Mx = some (r, Mx1) ∧ fX9_goods a0 a1 a2 Mm = some (r, Mm1) ∧ R Mx1 Mm1 := h.2.2.2.2.2.2.2.2.2.2.2.2.2.2.2.2.2.2.2.2.2.2.2.2.2.2.2.2.2.2.2.1
theorem op_seed {R : Mem → Mem → Prop} (h : nq_OPS R) : ∀ (a0 : Int32) (Mx Mm : Mem), R Mx Mm → ∃ (r : Int32) (Mx1 Mm1 : Mem), fX8_seed a0 Mx = some (r, Mx1) ∧ fX9_seed a0 Mm = some (r, Mm1) ∧ R Mx1 Mm1 := h.2.2.2.2.2.2.2.2.2.2.2.2.2.2.2.2.2.2.2.2.2.2.2.2.2.2.2.2.2.2.2.2.1
theorem op_voice {R : Mem → Mem → Prop} (h : nq_OPS R) : ∀ (a0 : Int32) (a1 : Int32) (a2 : Int32) (Mx Mm : Mem), R Mx Mm → ∃ (r : Int32) (Mx1 Mm1 : Mem), fX8_voice a0 a1 a2 Mx = some (r, Mx1) ∧ fX9_voice a0 a1 a2 Mm = some (r, Mm1) ∧ R Mx1 Mm1 := h.2.2.2.2.2.2.2.2.2.2.2.2.2.2.2.2.2.2.2.2.2.2.2.2.2.2.2.2.2.2.2.2.2.1
theorem op_trace {R : Mem → Mem → Prop} (h : nq_OPS R) : ∀ (a0 : Int32) (Mx Mm : Mem), R Mx Mm → ∃ (r : Int32) (Mx1 Mm1 : Mem), fX8_trace a0 Mx = some (r, Mx1) ∧ fX9_trace a0 Mm = some (r, Mm1) ∧ R Mx1 Mm1 := h.2.2.2.2.2.2.2.2.2.2.2.2.2.2.2.2.2.2.2.2.2.2.2.2.2.2.2.2.2.2.2.2.2.2.1
theorem op_sheet {R : Mem → Mem → Prop} (h : nq_OPS R) : ∀ (a0 : Int32) (a1 : Int32) (a2 : Int32) (Mx Mm : Mem), R Mx Mm → ∃ (r : Int32) (Mx1 Mm1 : Mem), fX8_sheet a0 a1 a2 Mx = some (r, Mx1) ∧ fX9_sheet a0 a1 a2 Mm = some (r, Mm1) ∧ R Mx1 Mm1 := h.2.2.2.2.2.2.2.2.2.2.2.2.2.2.2.2.2.2.2.2.2.2.2.2.2.2.2.2.2.2.2.2.2.2.2.1
theorem op_put {R : Mem → Mem → Prop} (h : nq_OPS R) : ∀ (a0 : Int32) (a1 : Int32) (a2 : Int32) (Mx Mm : Mem), R Mx Mm → ∃ (r : Int32) (Mx1 Mm1 : Mem), fX8_put a0 a1 a2 Mx = some (r, Mx1) ∧ fX9_put a0 a1 a2 Mm = some (r, Mm1) ∧ R Mx1 Mm1 := h.2.2.2.2.2.2.2.2.2.2.2.2.2.2.2.2.2.2.2.2.2.2.2.2.2.2.2.2.2.2.2.2.2.2.2.2.1
theorem op_move {R : Mem → Mem → Prop} (h : nq_OPS R) : ∀ (a0 : Int32) (a1 : Int32) (a2 : Int32) (a3 : Int32) (a4 : Int32) (Mx Mm : Mem), R Mx Mm → ∃ (r : Int32) (Mx1 Mm1 : Mem), fX8_move a0 a1 a2 a3 a4 Mx = some (r, Mx1) ∧ fX9_move a0 a1 a2 a3 a4 Mm = some (r, Mm1) ∧ R Mx1 Mm1 := h.2.2.2.2.2.2.2.2.2.2.2.2.2.2.2.2.2.2.2.2.2.2.2.2.2.2.2.2.2.2.2.2.2.2.2.2.2.1
theorem op_image {R : Mem → Mem → Prop} (h : nq_OPS R) : ∀  (Mx Mm : Mem), R Mx Mm → ∃ (r : Int32) (Mx1 Mm1 : Mem), fX8_image  Mx = some (r, Mx1) ∧ fX9_image  Mm = some (r, Mm1) ∧ R Mx1 Mm1 := h.2.2.2.2.2.2.2.2.2.2.2.2.2.2.2.2.2.2.2.2.2.2.2.2.2.2.2.2.2.2.2.2.2.2.2.2.2.2.1
theorem op_restore {R : Mem → Mem → Prop} (h : nq_OPS R) : ∀  (Mx Mm : Mem), R Mx Mm → ∃ (r : Int32) (Mx1 Mm1 : Mem), fX8_restore  Mx = some (r, Mx1) ∧ fX9_restore  Mm = some (r, Mm1) ∧ R Mx1 Mm1 := h.2.2.2.2.2.2.2.2.2.2.2.2.2.2.2.2.2.2.2.2.2.2.2.2.2.2.2.2.2.2.2.2.2.2.2.2.2.2.2.1
theorem op_tell {R : Mem → Mem → Prop} (h : nq_OPS R) : ∀ (a0 : Int32) (Mx Mm : Mem), R Mx Mm → ∃ (r : Int32) (Mx1 Mm1 : Mem), fX8_tell a0 Mx = some (r, Mx1) ∧ fX9_tell a0 Mm = some (r, Mm1) ∧ R Mx1 Mm1 := h.2.2.2.2.2.2.2.2.2.2.2.2.2.2.2.2.2.2.2.2.2.2.2.2.2.2.2.2.2.2.2.2.2.2.2.2.2.2.2.2.1
theorem op_check {R : Mem → Mem → Prop} (h : nq_OPS R) : ∀ (a0 : Int32) (a1 : Int32) (Mx Mm : Mem), R Mx Mm → ∃ (r : Int32) (Mx1 Mm1 : Mem), fX8_check a0 a1 Mx = some (r, Mx1) ∧ fX9_check a0 a1 Mm = some (r, Mm1) ∧ R Mx1 Mm1 := h.2.2.2.2.2.2.2.2.2.2.2.2.2.2.2.2.2.2.2.2.2.2.2.2.2.2.2.2.2.2.2.2.2.2.2.2.2.2.2.2.2.1
theorem op_count {R : Mem → Mem → Prop} (h : nq_OPS R) : ∀ (a0 : Int32) (Mx Mm : Mem), R Mx Mm → ∃ (r : Int32) (Mx1 Mm1 : Mem), fX8_count a0 Mx = some (r, Mx1) ∧ fX9_count a0 Mm = some (r, Mm1) ∧ R Mx1 Mm1 := h.2.2.2.2.2.2.2.2.2.2.2.2.2.2.2.2.2.2.2.2.2.2.2.2.2.2.2.2.2.2.2.2.2.2.2.2.2.2.2.2.2.2.1
theorem op_told {R : Mem → Mem → Prop} (h : nq_OPS R) : ∀ (a0 : Int32) (Mx Mm : Mem), R Mx Mm → ∃ (r : Int32) (Mx1 Mm1 : Mem), fX8_told a0 Mx = some (r, Mx1) ∧ fX9_told a0 Mm = some (r, Mm1) ∧ R Mx1 Mm1 := h.2.2.2.2.2.2.2.2.2.2.2.2.2.2.2.2.2.2.2.2.2.2.2.2.2.2.2.2.2.2.2.2.2.2.2.2.2.2.2.2.2.2.2
theorem nq_lawc {Ln i : Nat} (hL : Ln ≤ 3072) (hi : i ≤ 4000) : (nI Ln - 6 < nI i) ↔ Ln < i + 6 := by
  have h1 := pk_sub_toInt (a := Ln) (b := 6) (by omega) (by omega)
  have h1 : (nI Ln - 6).toInt = (Ln : Int) - 6 := h1
  rw [Int32.lt_iff_toInt_lt, h1, nI_toInt (by omega)]
  omega
theorem nq_and63 (x : Int32) : ∃ j : Nat, j < 64 ∧ x &&& 63 = nI j := pk_andE x (k := 6) rfl
set_option maxHeartbeats 8000000 in
set_option maxRecDepth 100000 in
theorem law_loop {R : Mem → Mem → Prop} {Y : Cy} {E : Ev} {l : Launch} {b Ln : Nat} {xs : Nat → Int32} {L1 L2 : List Nat} {cs ss : Nat} (C : nq_LC Y E l b Ln xs L1 L2 cs ss) (hbA : ¬ nq_A E b) (ops : nq_OPS R) (hfin : ∀ (lv : List (Nat × Value)) (Mx Mm : Mem), nq_LG Y E L1 L2 cs ss 1734 lv [] Mx Mm) : ∀ (n i : Nat) (Mx Mm : Mem), Ln < i + n → i ≤ 3100 → R Mx Mm → nq_LG Y E L1 L2 cs ss 18 [(0, .ref b), (1, .ref (nq_adL L1 0)), (2, .ref (nq_adL L2 0)), (3, .int (nI i))] [] Mx Mm := by
  intro n
  induction n with
  | zero =>
    intro i Mx Mm hn hi4 hR
    refine nq_iload_n C.1 rfl 3 rfl dL_law_18 ?_
    refine nq_aload_n C.1 rfl 0 rfl dL_law_19 ?_
    refine nq_slenL C.1 C.2.2.1 C.2.2.2.1 hbA rfl dL_law_20 ?_
    refine nq_bipush C.1 (v := 6) (by decide) dL_law_21 ?_
    refine nq_isub C.1 dL_law_23 ?_
    refine nq_icmp_gt C.1 (tgt := 1734) (by decide) dL_law_24 (fun c => ?_) (fun c => ?_)
    · exact hfin _ Mx Mm
    · exact absurd ((nq_lawc C.2.2.2.2.2.2 (by omega)).mpr (by omega)) c
  | succ n ih =>
    intro i Mx Mm hn hi4 hR
    refine nq_iload_n C.1 rfl 3 rfl dL_law_18 ?_
    refine nq_aload_n C.1 rfl 0 rfl dL_law_19 ?_
    refine nq_slenL C.1 C.2.2.1 C.2.2.2.1 hbA rfl dL_law_20 ?_
    refine nq_bipush C.1 (v := 6) (by decide) dL_law_21 ?_
    refine nq_isub C.1 dL_law_23 ?_
    refine nq_icmp_gt C.1 (tgt := 1734) (by decide) dL_law_24 (fun c => ?_) (fun c => ?_)
    · exact hfin _ Mx Mm
    · have hLn := C.2.2.2.2.2.2
      have hi : i + 6 ≤ Ln := by
        rcases Nat.lt_or_ge Ln (i + 6) with h | h
        · exact absurd ((nq_lawc hLn (by omega)).mpr h) c
        · exact h
      have kk : ∀ Mx1 Mm1, R Mx1 Mm1 → nq_LG Y E L1 L2 cs ss 1728 [(0, .ref b), (1, .ref (nq_adL L1 0)), (2, .ref (nq_adL L2 0)), (3, .int (nI i))] [] Mx1 Mm1 := by
        intro Mx1 Mm1 hR1
        obtain ⟨v, ev⟩ : ∃ v : Int32, v = nI i + 6 := ⟨_, rfl⟩
        refine nq_iinc C.1 (v := v) (lv' := [(3, .int v), (0, .ref b), (1, .ref (nq_adL L1 0)), (2, .ref (nq_adL L2 0))]) (j := 3) rfl (ev.trans rfl) (by decide) rfl dL_law_1728 ?_
        refine nq_goto C.1 (tgt := 18) (by decide) dL_law_1731 ?_
        have ev2 : v = nI (i + 6) := by rw [ev]; exact nI_add i 6
        subst ev2
        refine nq_sub (lv' := [(0, .ref b), (1, .ref (nq_adL L1 0)), (2, .ref (nq_adL L2 0)), (3, .int (nI (i + 6)))]) [1, 2, 3, 0] rfl ?_
        exact ih (i + 6) Mx1 Mm1 (by omega) (by omega) hR1
      refine nq_aload_n C.1 rfl 0 rfl dL_law_27 ?_
      refine nq_iload_n C.1 rfl 3 rfl dL_law_28 ?_
      refine nq_sld C.1 C.2.2.1 C.2.2.2.1 hbA (nq_ix0 (by omega) hLn) dL_law_29 ?_
      refine nq_bipush C.1 (v := 63) (by decide) dL_law_30 ?_
      refine nq_iand C.1 dL_law_32 ?_
      obtain ⟨j, hj, ej⟩ := nq_and63 (xs (nI i).toNatClampNeg)
      rw [ej]
      match j, hj with
      | 0, _ => exact nq_tabI C.1 (tgt := 224) (off := 191) dL_law_33 (by decide) (by decide) (by rfl) (by decide) (lc_place C hbA hi hR (op_place ops) kk)
      | 1, _ => exact nq_tabI C.1 (tgt := 237) (off := 204) dL_law_33 (by decide) (by decide) (by rfl) (by decide) (lc_near C hbA hi hR (op_near ops) kk)
      | 2, _ => exact nq_tabI C.1 (tgt := 280) (off := 247) dL_law_33 (by decide) (by decide) (by rfl) (by decide) (lc_way C hbA hi hR (op_way ops) kk)
      | 3, _ => exact nq_tabI C.1 (tgt := 313) (off := 280) dL_law_33 (by decide) (by decide) (by rfl) (by decide) (lc_route C hbA hi hR (op_route ops) kk)
      | 4, _ => exact nq_tabI C.1 (tgt := 356) (off := 323) dL_law_33 (by decide) (by decide) (by rfl) (by decide) (lc_rule C hbA hi hR (op_rule ops) kk)
      | 5, _ => exact nq_tabI C.1 (tgt := 389) (off := 356) dL_law_33 (by decide) (by decide) (by rfl) (by decide) (lc_loss C hbA hi hR (op_loss ops) kk)
      | 6, _ => exact nq_tabI C.1 (tgt := 412) (off := 379) dL_law_33 (by decide) (by decide) (by rfl) (by decide) (lc_word C hbA hi hR (op_word ops) kk)
      | 7, _ => exact nq_tabI C.1 (tgt := 455) (off := 422) dL_law_33 (by decide) (by decide) (by rfl) (by decide) (lc_ofWord C hbA hi hR (op_ofWord ops) kk)
      | 8, _ => exact nq_tabI C.1 (tgt := 488) (off := 455) dL_law_33 (by decide) (by decide) (by rfl) (by decide) (lc_lose C hbA hi hR (op_lose ops) kk)
      | 9, _ => exact nq_tabI C.1 (tgt := 511) (off := 478) dL_law_33 (by decide) (by decide) (by rfl) (by decide) (lc_as C hbA hi hR (op_as ops) kk)
      | 10, _ => exact nq_tabI C.1 (tgt := 544) (off := 511) dL_law_33 (by decide) (by decide) (by rfl) (by decide) (lc_words C hbA hi hR (op_words ops) kk)
      | 11, _ => exact nq_tabI C.1 (tgt := 567) (off := 534) dL_law_33 (by decide) (by decide) (by rfl) (by decide) (lc_came C hbA hi hR (op_came ops) kk)
      | 12, _ => exact nq_tabI C.1 (tgt := 610) (off := 577) dL_law_33 (by decide) (by decide) (by rfl) (by decide) (lc_stance C hbA hi hR (op_stance ops) kk)
      | 13, _ => exact nq_tabI C.1 (tgt := 653) (off := 620) dL_law_33 (by decide) (by decide) (by rfl) (by decide) (lc_made C hbA hi hR (op_made ops) kk)
      | 14, _ => exact nq_tabI C.1 (tgt := 696) (off := 663) dL_law_33 (by decide) (by decide) (by rfl) (by decide) (lc_knows C hbA hi hR (op_knows ops) kk)
      | 15, _ => exact nq_tabI C.1 (tgt := 739) (off := 706) dL_law_33 (by decide) (by decide) (by rfl) (by decide) (lc_feed C hbA hi hR (op_feed ops) kk)
      | 16, _ => exact nq_tabI C.1 (tgt := 802) (off := 769) dL_law_33 (by decide) (by decide) (by rfl) (by decide) (lc_text C hbA hi hR (op_text ops) kk)
      | 17, _ => exact nq_tabI C.1 (tgt := 825) (off := 792) dL_law_33 (by decide) (by decide) (by rfl) (by decide) (lc_law C hbA hi hR (op_law ops) kk)
      | 18, _ => exact nq_tabI C.1 (tgt := 868) (off := 835) dL_law_33 (by decide) (by decide) (by rfl) (by decide) (lc_aim C hbA hi hR (op_aim ops) kk)
      | 19, _ => exact nq_tabI C.1 (tgt := 901) (off := 868) dL_law_33 (by decide) (by decide) (by rfl) (by decide) (lc_live C hbA hi hR (op_live ops) kk)
      | 20, _ => exact nq_tabI C.1 (tgt := 924) (off := 891) dL_law_33 (by decide) (by decide) (by rfl) (by decide) (lc_soon C hbA hi hR (op_soon ops) kk)
      | 21, _ => exact nq_tabI C.1 (tgt := 967) (off := 934) dL_law_33 (by decide) (by decide) (by rfl) (by decide) (lc_odds C hbA hi hR (op_odds ops) kk)
      | 22, _ => exact nq_tabI C.1 (tgt := 1011) (off := 978) dL_law_33 (by decide) (by decide) (by rfl) (by decide) (lc_enough C hbA hi hR (op_enough ops) kk)
      | 23, _ => exact nq_tabI C.1 (tgt := 1044) (off := 1011) dL_law_33 (by decide) (by decide) (by rfl) (by decide) (lc_pays C hbA hi hR (op_pays ops) kk)
      | 24, _ => exact nq_tabI C.1 (tgt := 1077) (off := 1044) dL_law_33 (by decide) (by decide) (by rfl) (by decide) (lc_rest C hbA hi hR (op_rest ops) kk)
      | 25, _ => exact nq_tabI C.1 (tgt := 1100) (off := 1067) dL_law_33 (by decide) (by decide) (by rfl) (by decide) (lc_answer C hbA hi hR (op_answer ops) kk)
      | 26, _ => exact nq_tabI C.1 (tgt := 1143) (off := 1110) dL_law_33 (by decide) (by decide) (by rfl) (by decide) (lc_work C hbA hi hR (op_work ops) kk)
      | 27, _ => exact nq_tabI C.1 (tgt := 1176) (off := 1143) dL_law_33 (by decide) (by decide) (by rfl) (by decide) (lc_blind C hbA hi hR (op_blind ops) kk)
      | 28, _ => exact nq_tabI C.1 (tgt := 1209) (off := 1176) dL_law_33 (by decide) (by decide) (by rfl) (by decide) (lc_edge C hbA hi hR (op_edge ops) kk)
      | 29, _ => exact nq_tabI C.1 (tgt := 1242) (off := 1209) dL_law_33 (by decide) (by decide) (by rfl) (by decide) (lc_minds C hbA hi hR (op_minds ops) kk)
      | 30, _ => exact nq_tabI C.1 (tgt := 1275) (off := 1242) dL_law_33 (by decide) (by decide) (by rfl) (by decide) (lc_heirs C hbA hi hR (op_heirs ops) kk)
      | 31, _ => exact nq_tabI C.1 (tgt := 1319) (off := 1286) dL_law_33 (by decide) (by decide) (by rfl) (by decide) (lc_goods C hbA hi hR (op_goods ops) kk)
      | 32, _ => exact nq_tabI C.1 (tgt := 1362) (off := 1329) dL_law_33 (by decide) (by decide) (by rfl) (by decide) (lc_seed C hbA hi hR (op_seed ops) kk)
      | 33, _ => exact nq_tabI C.1 (tgt := 1385) (off := 1352) dL_law_33 (by decide) (by decide) (by rfl) (by decide) (lc_voice C hbA hi hR (op_voice ops) kk)
      | 34, _ => exact nq_tabI C.1 (tgt := 1428) (off := 1395) dL_law_33 (by decide) (by decide) (by rfl) (by decide) (lc_trace C hbA hi hR (op_trace ops) kk)
      | 35, _ => exact nq_tabI C.1 (tgt := 1451) (off := 1418) dL_law_33 (by decide) (by decide) (by rfl) (by decide) (lc_sheet C hbA hi hR (op_sheet ops) kk)
      | 36, _ => exact nq_tabI C.1 (tgt := 1494) (off := 1461) dL_law_33 (by decide) (by decide) (by rfl) (by decide) (lc_put C hbA hi hR (op_put ops) kk)
      | 37, _ => exact nq_tabI C.1 (tgt := 1537) (off := 1504) dL_law_33 (by decide) (by decide) (by rfl) (by decide) (lc_move C hbA hi hR (op_move ops) kk)
      | 38, _ => exact nq_tabI C.1 (tgt := 1600) (off := 1567) dL_law_33 (by decide) (by decide) (by rfl) (by decide) (lc_image C hbA hi hR (op_image ops) kk)
      | 39, _ => exact nq_tabI C.1 (tgt := 1613) (off := 1580) dL_law_33 (by decide) (by decide) (by rfl) (by decide) (lc_restore C hbA hi hR (op_restore ops) kk)
      | 40, _ => exact nq_tabI C.1 (tgt := 1626) (off := 1593) dL_law_33 (by decide) (by decide) (by rfl) (by decide) (lc_tell C hbA hi hR (op_tell ops) kk)
      | 41, _ => exact nq_tabI C.1 (tgt := 1649) (off := 1616) dL_law_33 (by decide) (by decide) (by rfl) (by decide) (lc_check C hbA hi hR (op_check ops) kk)
      | 42, _ => exact nq_tabI C.1 (tgt := 1682) (off := 1649) dL_law_33 (by decide) (by decide) (by rfl) (by decide) (lc_count C hbA hi hR (op_count ops) kk)
      | 43, _ => exact nq_tabI C.1 (tgt := 1705) (off := 1672) dL_law_33 (by decide) (by decide) (by rfl) (by decide) (lc_told C hbA hi hR (op_told ops) kk)
      | j + 44, hj =>
        refine nq_tabO C.1 (tgt := 1728) dL_law_33 (Or.inr (by rw [nI_toInt (by omega)]; omega)) (by decide) ?_
        exact kk Mx Mm hR
set_option maxHeartbeats 8000000 in
set_option maxRecDepth 100000 in
theorem nq_whole {R : Mem → Mem → Prop} (ops : nq_OPS R) (hR0 : R mfX8_init mfX9_init) {p : Program} {e : Env} {s : State} {m : MethodId} {below : List Frame} {meth : Method} {c : Code} (l : Launch) {b L : Nat} {xs : Nat → Int32} (hL : L ≤ 3072) (C0 : lw_At p s m meth c b L xs) : W p l e room_1 s m #[Value.ref b] below meth c s.heap [] 0 0 (lw_Z below #[Value.ref b] s) (entryFrame m ([Value.ref b] : List Value).toArray 4) := by
  obtain ⟨hx, hb, hr, hml, hown, hts, hX, hbl, hlocks, hgv⟩ := id C0
  obtain ⟨E, hEA, hev, hcc⟩ := nq_startE hts (flat_of_before _ hgv)
  have hbA : ¬ nq_A E b := by rw [hEA]; exact Nat.not_le.mpr hbl
  have hA : ∀ q, s.heap.size ≤ q → nq_A E q := fun q h => by rw [hEA]; exact h
  have hl := lv_entry ([.ref b]) (n := 4) (Nat.le_of_ble_eq_true rfl)
  rw [lg_entry_eq]
  generalize (lg_sl ([.ref b]) ++ List.replicate (4 - (lg_sl ([.ref b])).length) Slot.unset).toArray = ls at hl ⊢
  have hl : lv_has ls 4 [(0, .ref b)] := hl
  obtain ⟨Y, eY⟩ : ∃ Y : Cy, Y = (p, l, e, room_1, s, m, #[Value.ref b], below, meth, c, lw_Z below #[Value.ref b] s) := ⟨_, rfl⟩
  have hX0 : nq_OK (nq_X Y 0 0) E l room_1 cL_law 4 RL lw_tbl := by
    subst eY; exact ⟨hx, hb, hml, hown, hts, hlocks, hev, rfl, rfl, Nat.zero_le _, Nat.zero_le _⟩
  have hYs : nq_Ys Y = s := by subst eY; rfl
  have hA' : ∀ q, (nq_Ys Y).heap.size ≤ q → nq_A E q := by rw [hYs]; exact hA
  have hcc' : nq_CC (nq_Ys Y) := by rw [hYs]; exact hcc
  suffices key : nq_G (nq_X Y 0 0) (nq_Ew E (nq_adL [])) 4 0 [(0, .ref b)] [] [] (fun _ _ => 0) by
    subst eY
    exact key s.heap [] ls hl ⟨fun k q h => by simp [nq_ws] at h, fun i j p q h => by simp [nq_ws] at h, fun k q h => by simp [nq_ws] at h⟩ va_S.rf
  refine nq_new (nq_OKx hX0 (by decide) (by decide)) sub_wsX80 tyX8 tyX8_ok (ci := 8) (by rfl) lx_0 lx_1 lx_2 [fun _ => .null, fun _ => .null, fun _ => .null, Value.int, fun _ => .null, fun _ => .null, fun _ => .null, fun _ => .null, fun _ => .null, fun _ => .null, fun _ => .null] hfsX8 hA' (by rfl) (by rfl) (by decide) (by decide) dL_law_0 (fun q0 => ?_)
  refine nq_dup (nq_OKx hX0 (by decide) (by decide)) rfl dL_law_3 ?_
  refine nq_initC (nq_OKx hX0 (by decide) (by decide)) hcc' hA' ctX8 gl_X8_init (by rfl) (Or.inl lx_3) lx_2 lx_4 (by rfl) dsX8_init (by decide) (by decide) (by rfl) (by rfl) (by rfl) (Nat.le_of_ble_eq_true rfl) dL_law_4 (fun Lc hLc => ?_)
  refine nq_nrm (L' := q0 :: Lc) (K' := kfX8_init (nq_adL (q0 :: Lc)) (nq_xa E)) (cs' := 95) (ss' := 3119) rfl rfl rfl rfl ?_
  refine nq_Kw (K' := nq_kN (nq_adL (q0 :: Lc)) (nq_xa E)) (M' := mfX8_init) (by rw [show ([] : List Sh).length = 0 from rfl, nq_mg0]; exact nq_kNw E (q0 :: Lc)) ?_
  refine nq_astore_n (nq_OKx hX0 (by decide) (by decide)) (lv' := [(1, .ref q0), (0, .ref b)]) rfl (by decide) rfl rfl dL_law_7 ?_
  have hLK : (q0 :: Lc).length = (nq_kN (nq_adL (q0 :: Lc)) (nq_xa E)).length := by rw [List.length_cons, hLc]; rfl
  refine nq_new (nq_OKx hX0 (by decide) (by decide)) sub_wsX90 tyX9 tyX9_ok (ci := 9) (by rfl) lx_5 lx_6 lx_7 [fun _ => .null, fun _ => .null, Value.int, fun _ => .null, fun _ => .null, fun _ => .null, fun _ => .null, fun _ => .null, fun _ => .null, Value.int, Value.int, Value.int, Value.int, Value.int, Value.int, fun _ => .null, fun _ => .null, Value.int, Value.int, fun _ => .null, fun _ => .null, fun _ => .null, fun _ => .null] hfsX9 hA' hLK (by rfl) (by decide) (by decide) dL_law_8 (fun q1 => ?_)
  refine nq_dup (nq_OKx hX0 (by decide) (by decide)) rfl dL_law_11 ?_
  refine nq_initC (nq_OKx hX0 (by decide) (by decide)) hcc' hA' ctX9 gl_X9_init (by rfl) (Or.inl lx_8) lx_7 lx_9 (by rfl) dsX9_init (by decide) (by decide) hLK (by rfl) (by rfl) (Nat.le_of_ble_eq_true rfl) dL_law_12 (fun Lm hLm => ?_)
  refine nq_astore_n (nq_OKx hX0 (by decide) (by decide)) (lv' := [(2, .ref q1), (1, .ref q0), (0, .ref b)]) rfl (by decide) rfl rfl dL_law_15 ?_
  refine nq_iconst (nq_OKx hX0 (by decide) (by decide)) (v := 0) (by decide) dL_law_16 ?_
  refine nq_istore_n (nq_OKx hX0 (by decide) (by decide)) (lv' := [(3, .int 0), (2, .ref q1), (1, .ref q0), (0, .ref b)]) rfl (by decide) rfl rfl dL_law_17 ?_
  refine nq_sub (lv' := [(0, .ref b), (1, .ref q0), (2, .ref q1), (3, .int (nI 0))]) [3, 2, 1, 0] rfl ?_
  refine law_loop (L1 := q0 :: Lc) (L2 := q1 :: Lm) (R := R) ⟨nq_OKx hX0 (by decide) (by decide), by rw [hYs]; exact hEA, by rw [hYs]; exact hX, by rw [hYs]; exact hbl, by rw [List.length_cons, hLc], by rw [List.length_cons, hLm], hL⟩ hbA ops (fun lv Mx Mm => ?_) (L + 1) 0 mfX8_init mfX9_init (by omega) (by omega) hR0
  subst eY
  intro H locs ls hl hA2 hS
  refine lv_iconst (v := 1) hx hb dL_law_1734 (by decide) ?_
  refine va_forget (fun q hq => by have h := hS.2.2 q hq; rw [show nq_A (nq_Ew E (nq_adL (q0 :: Lc ++ q1 :: Lm))) = nq_A E from rfl, hEA] at h; exact h) ?_
  refine W.widen (k := 600000) (n := 7302250) (by decide) (by decide) ?_
  exact lw_ret hx hb hr hlocks dL_law_1735
