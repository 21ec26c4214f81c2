/-! THE START: references stand within their arrays, of the reference -/
set_option maxRecDepth 100000 in
set_option maxHeartbeats 4000000 in
theorem p_X12_ruleZero {N : Nat} {S : SH} {a0 : Nat} {x : DY} (h : Pn S) : PO (fA_X12_ruleZero N S a0 x) (fun r => Pn r.1) := by
  unfold fA_X12_ruleZero
  repeat' (first | (with_reducible refine po_tk fun _ => ?_) | (with_reducible refine po_blX fun _ => ?_) | (with_reducible refine po_rfk fun _ => ?_) | (with_reducible refine po_ck fun _ => ?_) | (with_reducible refine po_fk ?_) | (with_reducible refine po_nk ?_) | (with_reducible refine po_lk ?_) | (with_reducible refine po_blN fun _ => ?_) | (with_reducible refine po_blS (by first | exact Pn.sn (by assumption) | exact Pn.up (by assumption) (by decide) (by assumption)) fun _ _ => ?_) | (with_reducible refine po_ret ?_))
  all_goals assumption
set_option maxRecDepth 100000 in
set_option maxHeartbeats 4000000 in
theorem p_X12_init {N : Nat} {S : SH} {a0 : Nat} {a1 : Int32} {x : DY} (h : Pn S) : PO (fA_X12_init N S a0 a1 x) (fun r => Pn r.1) := by
  unfold fA_X12_init
  repeat' (first | (with_reducible refine po_tk fun _ => ?_) | (with_reducible refine po_blX fun _ => ?_) | (with_reducible refine po_rfk fun _ => ?_) | (with_reducible refine po_ck fun _ => ?_) | (with_reducible refine po_fk ?_) | (with_reducible refine po_nk ?_) | (with_reducible refine po_lk ?_) | (with_reducible refine po_blN fun _ => ?_) | (with_reducible refine po_blS (by first | exact Pn.sn (by assumption) | exact Pn.up (by assumption) (by decide) (by assumption)) fun _ _ => ?_) | (with_reducible refine po_bindS (by exact p_X12_ruleZero (by assumption)) fun _ _ => ?_) | (with_reducible refine po_ret ?_))
  all_goals assumption
