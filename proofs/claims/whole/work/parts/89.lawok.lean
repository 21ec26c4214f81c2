/-! LAYER 3: what the law asks of the two graphs -/
theorem zW_ty {S Sm : SH} {x y : DY} (h : zW S x Sm y) : WT S ∧ TY S 40 11 ∧ WT Sm ∧ TY Sm 40 12 := by
  obtain ⟨n, M, K, W, w, T, c, hW⟩ := h
  obtain ⟨-, -, -, -, -, -, hZ, hWm, hTm, -⟩ := hW
  obtain ⟨z1, z2, z3, z4, z5, z6, z7, z8⟩ := hZ
  exact ⟨z6, ⟨by omega, by omega, z7 (40, 11) (by decide)⟩, hWm, hTm⟩
section LAWOK
variable {S Sm : SH} {x y : DY} {α : Type}
theorem lk_Q (f : α → Value) {o : Option (α × DY)} {q : Option (α × DY)} (h : zJ o q (zQ S Sm)) : ∃ v S' x' y', o.map (fun r => (some (f r.1), S, r.2)) = some (v, S', x') ∧ q.map (fun r => (some (f r.1), r.2)) = some (v, y') ∧ zW S' x' Sm y' := by
  obtain ⟨a, b, rfl, rfl, h1, h2⟩ := h
  exact ⟨some (f a.1), S, a.2, b.2, rfl, by rw [h1]; rfl, h2⟩
theorem lk_E (f : α → Value) (hW : zW S x Sm y) {o : Option α} {q : Option α} (h : zJ o q (fun a b => a = b)) : ∃ v S' x' y', o.map (fun r => (some (f r), S, x)) = some (v, S', x') ∧ q.map (fun r => (some (f r), y)) = some (v, y') ∧ zW S' x' Sm y' := by
  obtain ⟨a, b, rfl, rfl, h1⟩ := h
  exact ⟨some (f a), S, x, y, rfl, by rw [h1]; rfl, hW⟩
theorem lk_A {o : Option (Int32 × SH × DY)} {q : Option (Int32 × DY)} (h : zJ o q (zQA Sm)) : ∃ v S' x' y', o.map (fun r => (some (Value.int r.1), r.2.1, r.2.2)) = some (v, S', x') ∧ q.map (fun r => (some (Value.int r.1), r.2)) = some (v, y') ∧ zW S' x' Sm y' := by
  obtain ⟨a, b, rfl, rfl, h1, h2⟩ := h
  exact ⟨some (.int a.1), a.2.1, a.2.2, b.2, rfl, by rw [h1]; rfl, h2⟩
end LAWOK
theorem lawok : LAWOK 1000 (fun _ S x Sm y => zW S x Sm y) := by
  refine ⟨fun c Sx xx Sm xm h => zW_ty h, fun c Sx xx Sm xm k a1 a2 a3 a4 hc hk hW => ?_⟩
  have hN : 600 ≤ 1000 := by omega
  match k, hk with
  | 0, _ => exact lk_Q Value.int (k_dish (N := 1000) hW a1 a2 a3)
  | 1, _ => exact lk_Q Value.int (k_price (N := 1000) hW a1 a2)
  | 2, _ => exact lk_Q Value.int (k_lay (N := 1000) hW a1)
  | 3, _ => exact lk_E Value.int hW (k_plate (N := 1000) hN hW a1 a2)
  | 4, _ => exact lk_E Value.int hW (k_at (N := 1000) hW a1)
  | 5, _ => exact lk_Q Value.int (k_gone (N := 1000) hW a1)
  | 6, _ => exact lk_Q Value.int (k_seat (N := 1000) hN hW a1)
  | 7, _ => exact lk_Q Value.int (k_guest (N := 1000) hN hW a1 a2 a3)
  | 8, _ => exact lk_E Value.int hW (k_seatTold (N := 1000) hN hW a1 a2)
  | 9, _ => exact lk_E Value.long hW (k_liking (N := 1000) hW a1 a2)
  | 10, _ => exact lk_Q Value.int (k_pays (N := 1000) hW a1 a2)
  | 11, _ => exact lk_Q Value.int (k_putBack (N := 1000) hW a1)
  | 12, _ => exact lk_Q Value.int (k_feed (N := 1000) hN hW a1 _)
  | 13, _ => exact lk_A (k_text (N := 1000) hN hW )
  | 14, _ => exact lk_A (k_force (N := 1000) hW a1)
  | 15, _ => exact lk_Q Value.long (k_says (N := 1000) hN hW a1 a2 a3)
  | 16, _ => exact lk_Q Value.int (k_tick (N := 1000) hN hW a1)
  | 17, _ => exact lk_Q Value.int (k_order (N := 1000) hW a1 a2)
  | 18, _ => exact lk_E Value.int hW (k_lane (N := 1000) hW a1)
  | 19, _ => exact lk_E Value.int hW (k_empties (N := 1000) hN hW a1 a2)
  | 20, _ => exact lk_Q Value.int (k_waste (N := 1000) hW a1)
  | 21, _ => exact lk_Q Value.int (k_ahead (N := 1000) hN hW a1 a2 a3)
  | 22, _ => exact lk_Q Value.long (k_worth (N := 1000) hN hW a1 a2)
  | 23, _ => exact lk_Q Value.int (k_piece (N := 1000) hW a1 a2)
  | 24, _ => exact lk_Q Value.int (k_cut (N := 1000) hN hW a1 a2)
  | 25, _ => exact lk_E Value.int hW (k_count (N := 1000) hN hW a1)
  | 26, _ => exact lk_Q Value.int (k_sheet (N := 1000) hN hW a1 a2 a3)
  | 27, _ => exact lk_Q Value.int (k_cell (N := 1000) hW a1 a2 a3)
  | 28, _ => exact lk_Q Value.int (k_lays (N := 1000) hN hW a1 a2 a3 a4)
  | 29, _ => exact lk_E Value.int hW (k_taken (N := 1000) hN hW a1 a2)
  | k + 30, h => exact absurd h (by omega)
