/-! THE START: references stand within their arrays, of the reference -/
section PM
variable {ρ : Type} {Q : ρ → Prop} {S : SH} {a c : Nat}
theorem pm_A {l : List (Option Value)} {s : List Value} {m : Int32} {B c1 n k : Nat} {x : DY} {K : SH → DY → Option ρ} (hc : c < 13) (h : Pn S) (kk : ∀ S x, Pn S → PO (K S x) Q) : PO (fk S l s (nk m B (bl S.1 (fun b => bl (SN S c1 n) (fun S1 => bl (XN x S.1) (fun x1 => tk S1 a c (lk S1 b (bl (UP S1 a k (some b)) (fun S2 => bl x1 (fun x2 => K S2 x2)))))))))) Q :=
  po_fk (po_nk (po_tk fun ht => po_lk (kk _ _ (Pn.up ht hc h.sn))))
theorem pm_U {v : DY} {K : DY → Option ρ} (kk : ∀ x, PO (K x) Q) : PO (tk S a c (bl v K)) Q := po_tk fun _ => kk v
theorem pm_W {r : Option Nat} {c2 : Nat} {i : Int32} {v : Nat → DY} {K : Nat → DY → Option ρ} (kk : ∀ b x, PO (K b x) Q) : PO (tk S a c (rfk r (fun b => tk S b c2 (ck S b i (bl (v b) (fun x => K b x)))))) Q := po_tk fun _ => po_rfk fun b => po_tk fun _ => po_ck fun _ => kk b _
theorem pm_t {o : Option ρ} (h : PO o Q) : PO (tk S a c o) Q := po_tk fun _ => h
theorem pm_c {o : Option ρ} {i : Int32} (h : PO o Q) : PO (ck S a i o) Q := po_ck fun _ => h
end PM
set_option maxRecDepth 100000 in
set_option maxHeartbeats 4000000 in
theorem p_X12_ruleZero {N : Nat} {S : SH} {a0 : Nat} {x : DY} (h : Pn S) : PO (fA_X12_ruleZero N S a0 x) (fun r => Pn r.1) := by
  unfold fA_X12_ruleZero
  repeat' (first | (with_reducible refine pm_W fun _ _ => ?_) | (with_reducible refine pm_U fun _ => ?_) | (with_reducible refine po_tk fun _ => ?_) | (with_reducible refine pm_c ?_) | (with_reducible refine po_blX fun _ => ?_) | (with_reducible refine po_rfk fun _ => ?_) | (with_reducible refine po_fk ?_) | (with_reducible refine po_nk ?_) | (with_reducible refine po_lk ?_) | (with_reducible refine po_blN fun _ => ?_) | (with_reducible refine po_blS (by first | exact Pn.sn (by assumption) | exact Pn.up (by assumption) (by decide) (by assumption)) fun _ _ => ?_) | (with_reducible refine po_ret ?_))
  all_goals assumption
set_option maxRecDepth 100000 in
set_option maxHeartbeats 4000000 in
theorem p_X12_init {N : Nat} {S : SH} {a0 : Nat} {a1 : Int32} {x : DY} (h : Pn S) : PO (fA_X12_init N S a0 a1 x) (fun r => Pn r.1) := by
  unfold fA_X12_init
  repeat' (first | (with_reducible refine pm_W fun _ _ => ?_) | (with_reducible refine pm_U fun _ => ?_) | (with_reducible refine pm_A (by decide) (by assumption) fun _ _ _ => ?_) | (with_reducible refine po_tk fun _ => ?_) | (with_reducible refine pm_c ?_) | (with_reducible refine po_blX fun _ => ?_) | (with_reducible refine po_rfk fun _ => ?_) | (with_reducible refine po_fk ?_) | (with_reducible refine po_nk ?_) | (with_reducible refine po_lk ?_) | (with_reducible refine po_blN fun _ => ?_) | (with_reducible refine po_blS (by first | exact Pn.sn (by assumption) | exact Pn.up (by assumption) (by decide) (by assumption)) fun _ _ => ?_) | (with_reducible refine po_bindS (by exact p_X12_ruleZero (by assumption)) fun _ _ => ?_) | (with_reducible refine po_ret ?_))
  all_goals assumption
