/-! TEXTS: length, charAt, by the JDK's own code -/
abbrev mJ0_length_8abf5 : MI := (yJ0_length_8abf5, cJ0_length_8abf5, 1, (some .int))
abbrev mJ0_charAt_5068e : MI := (yJ0_charAt_5068e, cJ0_charAt_5068e, 2, (some .char))
abbrev mJ0_coder_7d493 : MI := (yJ0_coder_7d493, cJ0_coder_7d493, 1, (some .byte))
abbrev mJ0_isLatin1_aae02 : MI := (yJ0_isLatin1_aae02, cJ0_isLatin1_aae02, 1, (some .boolean))
abbrev mJ0_checkIndex_df160 : MI := (yJ0_checkIndex_df160, cJ0_checkIndex_df160, 2, none)
abbrev mJ1_charAt_3b067 : MI := (yJ1_charAt_3b067, cJ1_charAt_3b067, 2, (some .char))
abbrev mJ3_checkIndex_8e157 : MI := (yJ3_checkIndex_8e157, cJ3_checkIndex_8e157, 3, (some .int))
theorem lb_J0_length_8abf5 : LB mJ0_length_8abf5 0 := ⟨(tbI 692 (by decide +kernel) rfl), (tbI 100 (by decide +kernel) rfl), ⟨by decide +kernel, by decide +kernel, by decide +kernel⟩, by decide⟩
theorem lb_J0_charAt_5068e : LB mJ0_charAt_5068e 1 := ⟨(tbI 702 (by decide +kernel) rfl), (tbI 100 (by decide +kernel) rfl), ⟨by decide +kernel, by decide +kernel, by decide +kernel⟩, by decide⟩
theorem lb_J0_coder_7d493 : LB mJ0_coder_7d493 0 := ⟨(tbI 696 (by decide +kernel) rfl), (tbI 100 (by decide +kernel) rfl), ⟨by decide +kernel, by decide +kernel, by decide +kernel⟩, by decide⟩
theorem lb_J0_isLatin1_aae02 : LB mJ0_isLatin1_aae02 0 := ⟨(tbI 706 (by decide +kernel) rfl), (tbI 100 (by decide +kernel) rfl), ⟨by decide +kernel, by decide +kernel, by decide +kernel⟩, by decide⟩
theorem lb_J0_checkIndex_df160 : LB mJ0_checkIndex_df160 2 := ⟨(tbI 712 (by decide +kernel) rfl), (tbI 100 (by decide +kernel) rfl), ⟨by decide +kernel, by decide +kernel, by decide +kernel⟩, by decide⟩
theorem lb_J1_charAt_3b067 : LB mJ1_charAt_3b067 2 := ⟨(tbI 709 (by decide +kernel) rfl), (tbI 101 (by decide +kernel) rfl), ⟨by decide +kernel, by decide +kernel, by decide +kernel⟩, by decide⟩
theorem lb_J3_checkIndex_8e157 : LB mJ3_checkIndex_8e157 3 := ⟨(tbI 717 (by decide +kernel) rfl), (tbI 102 (by decide +kernel) rfl), ⟨by decide +kernel, by decide +kernel, by decide +kernel⟩, by decide⟩
def exB : Nat → Nat → Int32 := fun i j => (exV (5 + i)).getD j 0
theorem exLen_ok : ∀ i, i < 11 → exLen.getD i 0 = (exV (5 + i)).length := by decide +kernel
theorem exByt_ok : ∀ i, i < 11 → exByt.getD i [] = exV (5 + i) := by decide +kernel
theorem exAsc : ∀ i, i < 11 → ∀ j, j < (exV (5 + i)).length → ((((exV (5 + i)).getD j 0) &&& 255).toUInt32 % 65536).toInt32 = (exV (5 + i)).getD j 0 ∧ narrow .char (.int ((exV (5 + i)).getD j 0)) = .int ((exV (5 + i)).getD j 0) := by decide +kernel
theorem exSmall : ∀ i, i < 11 → (exV (5 + i)).length < 100 := by decide +kernel
section STR
variable {M M' : MI} {d d' mcT msT mc ms : Nat} {Q Q' : QT} {pc : Nat} {ls : List (Option Value)} {st : List Value} {S : SH} {x : DY} {k n : Nat}
theorem r_sfield {i b : Nat} {nm ds : String} {v : Value} (hb : 5 ≤ b ∧ b < 16) (hw : Cond.fieldLink M.1.cls i "java/lang/String" nm ds ∈ tb) (hv : ∀ {A : Nat → Prop} {U : State} {H : Heap} {adK adV : Nat → Nat} {σ : Nat → Nat}, vk_S 11 exLen exByt adK adV A U H → (∀ i, i < 11 → adK i = σ (5 + i) ∧ adV i = σ (16 + i)) → va_OF "java/lang/String" nm ds (rv σ v) (σ b) A U H) (hd : decode M.2.1 pc = .ok (.getfield i, 3)) (kk : MW M d mcT msT Q (pc + 3) ls (v :: st) S x k n) : MW M d mcT msT Q pc ls (.ref b :: st) S x k n := by
  intro p l e R s m args below meth c' D ty σ0 S0 C σ H locs cells slots LS T
  obtain ⟨adK, adV, h3, h3'⟩ := C.2.2.2.2.2.2.2.2.2.2.1.2.2.1
  have h20 := C.2.2.2.2.2.2.2.2.2.2.2
  have h4 : ∀ i, i < 11 → adK i = σ (5 + i) ∧ adV i = σ (16 + i) := fun i hi => by
    rw [ex_old T.2.2.1 h20 (show 5 + i < 40 by omega), ex_old T.2.2.1 h20 (show 16 + i < 40 by omega)]; exact h3' i hi
  exact vk_getf C.1 C.2.1 (hv h3 h4) T.2.1 C.2.2.2.2.2.2.1 (C.2.2.2.2.2.2.2.1 _ hw) (fun _ h => h) hd (kk C T)
theorem r_sval {i b : Nat} (hb : 5 ≤ b ∧ b < 16) (hw : Cond.fieldLink M.1.cls i "java/lang/String" "value" "[B" ∈ tb) (hd : decode M.2.1 pc = .ok (.getfield i, 3)) (kk : MW M d mcT msT Q (pc + 3) ls (.ref (b + 11) :: st) S x k n) : MW M d mcT msT Q pc ls (.ref b :: st) S x k n := by
  refine r_sfield (v := .ref (b + 11)) hb hw (fun h h' => ?_) hd kk
  obtain ⟨i, hi, rfl⟩ : ∃ i, i < 11 ∧ b = 5 + i := ⟨b - 5, by omega, by omega⟩
  have h1 := (h.1 i hi).2.2.1
  rw [(h' i hi).1, (h' i hi).2] at h1
  rw [show 5 + i + 11 = 16 + i by omega]
  exact h1
theorem r_scod {i b : Nat} (hb : 5 ≤ b ∧ b < 16) (hw : Cond.fieldLink M.1.cls i "java/lang/String" "coder" "B" ∈ tb) (hd : decode M.2.1 pc = .ok (.getfield i, 3)) (kk : MW M d mcT msT Q (pc + 3) ls (.int 0 :: st) S x k n) : MW M d mcT msT Q pc ls (.ref b :: st) S x k n := by
  refine r_sfield (v := .int 0) hb hw (fun h h' => ?_) hd kk
  obtain ⟨i, hi, rfl⟩ : ∃ i, i < 11 ∧ b = 5 + i := ⟨b - 5, by omega, by omega⟩
  have h1 := (h.1 i hi).2.1
  rw [(h' i hi).1] at h1
  exact h1
theorem s_arr {p : Program} {R : Room} {s : State} {m : MethodId} {args : Array Value} {meth : Method} {c : Code} {D : va_G} {ty : Nat → ClassId} {σ0 σ : Nat → Nat} {S0 : SH} {H : Heap} {locs : List Loc} {cells slots : Nat} {LS : Array Slot} {b : Nat} (hb : 5 ≤ b ∧ b < 16) (C : CX M d mcT msT p R s m args meth c D ty σ0 S0) (T : ST M mcT msT D ty σ0 S0 s H locs cells slots LS σ ls S x k n) :
    va_T .byte (σ (b + 11)) (S.2.2.1 b) (fun j => .int ((exV b).getD j 0)) (AF σ0 S0 s.heap.size) s s.heap := by
  obtain ⟨adK, adV, h3, h3'⟩ := C.2.2.2.2.2.2.2.2.2.2.1.2.2.1
  have h20 := C.2.2.2.2.2.2.2.2.2.2.2
  obtain ⟨i, hi, rfl⟩ : ∃ i, i < 11 ∧ b = 5 + i := ⟨b - 5, by omega, by omega⟩
  have h1 := (h3.1 i hi).2.2.2
  rw [(h3' i hi).2, exLen_ok i hi, exByt_ok i hi] at h1
  rw [show 5 + i + 11 = 16 + i by omega, ex_old T.2.2.1 h20 (show 16 + i < 40 by omega), (T.1.2.2.1 (5 + i) (by omega)).1]
  exact h1
theorem r_salen {b : Nat} (hb : 5 ≤ b ∧ b < 16) (hd : decode M.2.1 pc = .ok (.arraylength, 1)) (kk : MW M d mcT msT Q (pc + 1) ls (.int (nI (S.2.2.1 b)) :: st) S x k n) : MW M d mcT msT Q pc ls (.ref (b + 11) :: st) S x k n := by
  intro p l e R s m args below meth c' D ty σ0 S0 C σ H locs cells slots LS T
  exact va_tlen C.1 C.2.1 (s_arr hb C T) T.2.1 rfl hd (kk C T)
theorem r_sbald {b : Nat} {j : Int32} (hb : 5 ≤ b ∧ b < 16) (hi : ix S b j) (hd : decode M.2.1 pc = .ok (.baload, 1)) (kk : MW M d mcT msT Q (pc + 1) ls (.int (x.1 b j.toNatClampNeg) :: st) S x k n) : MW M d mcT msT Q pc ls (.int j :: .ref (b + 11) :: st) S x k n := by
  intro p l e R s m args below meth c' D ty σ0 S0 C σ H locs cells slots LS T
  have hex := T.1.2.2.1 b (by omega)
  exact va_tb (v := .int (x.1 b j.toNatClampNeg)) C.1 C.2.1 (s_arr hb C T) T.2.1 hi (by rw [hex.2 _ (by rw [← hex.1]; exact Nat.not_le.mp fun q => hi (Or.inr q))]) hd (kk C T)
theorem r_compact {i : Nat} (hw : Cond.fieldLink M.1.cls i "java/lang/String" "COMPACT_STRINGS" "Z" ∈ tb) (hd : decode M.2.1 pc = .ok (.getstatic i, 3)) (kk : MW M d mcT msT Q (pc + 3) ls (.int 1 :: st) S x k n) : MW M d mcT msT Q pc ls st S x k n := by
  intro p l e R s m args below meth c' D ty σ0 S0 C σ H locs cells slots LS T
  exact va_gets C.1 C.2.1 C.2.2.2.2.2.2.2.2.2.2.1.2.2.2.1 T.2.1 C.2.2.2.2.2.2.1 (C.2.2.2.2.2.2.2.1 _ hw) (fun _ h => h) hd (kk C T)
theorem r_sioobe {i : Nat} (hw : Cond.fieldLink M.1.cls i "jdk/internal/util/Preconditions" "SIOOBE_FORMATTER" "Ljava/util/function/BiFunction;" ∈ tb) (hd : decode M.2.1 pc = .ok (.getstatic i, 3)) (k1 : MW M d mcT msT Q (pc + 3) ls (.null :: st) S x k n) (k2 : MW M d mcT msT Q (pc + 3) ls (.ref 27 :: st) S x k n) : MW M d mcT msT Q pc ls st S x k n := by
  intro p l e R s m args below meth c' D ty σ0 S0 C σ H locs cells slots LS T
  have hs : σ 27 = σ0 27 := ex_old T.2.2.1 C.2.2.2.2.2.2.2.2.2.2.2 (by omega)
  rcases C.2.2.2.2.2.2.2.2.2.2.1.2.2.2.2 with h | h
  · exact va_gets C.1 C.2.1 h T.2.1 C.2.2.2.2.2.2.1 (C.2.2.2.2.2.2.2.1 _ hw) (fun _ h => h) hd (k1 C T)
  · rw [← hs] at h
    exact va_gets C.1 C.2.1 h T.2.1 C.2.2.2.2.2.2.1 (C.2.2.2.2.2.2.2.1 _ hw) (fun _ h => h) hd (k2 C T)
theorem r_aloadN {i : Fin 4} (hl0 : ls[(i : Nat)]? = some (some .null)) (hd : decode M.2.1 pc = .ok (.aload_n i, 1)) (kk : MW M d mcT msT Q (pc + 1) ls (.null :: st) S x k n) : MW M d mcT msT Q pc ls (st) S x k n := MW.pure (fun hx hb ho ht hl k => lv_aload_nN hx hb hd rfl (hl.get hl0) k) kk
theorem r_ishr {a b v : Int32} (hv : a >>> (b &&& 31) = v) (hd : decode M.2.1 pc = .ok (.ishr, 1)) (kk : MW M d mcT msT Q (pc + 1) ls (.int v :: st) S x k n) : MW M d mcT msT Q pc ls (.int b :: .int a :: st) S x k n := by
  subst hv
  exact MW.pure (fun hx hb ho ht hl k => lv_ishr hx hb hd k) kk
theorem r_i2c {a : Int32} (hd : decode M.2.1 pc = .ok (.i2c, 1)) (kk : MW M d mcT msT Q (pc + 1) ls (.int (a.toUInt32 % 65536).toInt32 :: st) S x k n) : MW M d mcT msT Q pc ls (.int a :: st) S x k n := MW.pure (fun hx hb ho ht hl k => lv_i2c hx hb hd rfl k) kk
/-- a call on a text -/
theorem r_VS {i b : Nat} {As st0 : List Value} (l1 : Cond.methodLink M.1.cls i M'.1 ∈ tb) (l2 : Cond.instanceMethod M'.1 ∈ tb) (l3 : Cond.selects "java/lang/String" M'.1 M'.1 ∈ tb) (hb : LB M' As.length) (hA : MA M' d' (.ref b :: As) S x mc ms Q') (hd' : d' + 1 ≤ d) (hT : 5 ≤ b ∧ b < 16) (hs : (st.map fun v => v.category).sum ≤ 8) (h0 : st0 = As.reverse ++ .ref b :: st) (hdg : decode M.2.1 pc = .ok (.invokevirtual i, 3))
    (hin : (∀ v ∈ st, inS S v) ∧ (∀ v, some v ∈ ls → inS S v) ∨ ∀ r S' x', Q' r S' x' → S'.1 = S.1)
    (kk : ∀ r S' x', Q' r S' x' → S.1 ≤ S'.1 → MW M d mcT msT Q (pc + 3) ls (r.toList ++ st) S' x' k n) : MW M d mcT msT Q pc ls st0 S x (mc + k) (ms + n) := by
  subst h0
  intro p l e R s m args below meth c' D ty σ0 S0 C σ H locs cells slots LS T
  obtain ⟨b1, b2, b3, b4⟩ := hb
  have hts := C.2.2.2.2.2.2.2.1
  have hR := C.2.2.2.2.2.2.2.2.1
  have h20 := C.2.2.2.2.2.2.2.2.2.2.2
  have hrecv : ∃ cell : Cell, H[σ b]? = some cell ∧ cell.vm.isStatics = false ∧ s.vm.findClass "java/lang/String" = some cell.cls := by
    obtain ⟨adK, adV, h3, h3'⟩ := C.2.2.2.2.2.2.2.2.2.2.1.2.2.1
    have h := vk_recv h3 (i := b - 5) (by omega) T.2.1
    rw [(h3' (b - 5) (by omega)).1, show 5 + (b - 5) = b by omega] at h
    rw [ex_old T.2.2.1 h20 (show b < 40 by omega)]
    exact h
  refine W_call (st := st) C T (va_runV (C := "java/lang/String") (As := As.map (rv σ)) ⟨C.1, C.2.1, C.2.2.1, C.2.2.2.2.2.2.1, hts⟩ (hA l D ty σ H.size) ⟨callB_of As.length hts (tb_call b1) rfl rfl rfl (hts _ b2) (hts _ l1) b3 (by rw [hR]; exact rmD_ok hd' b4), hts _ l2, hts _ l3⟩
    ⟨Wat.blind, hrecv, fun U hU hv => ⟨rfl, by rw [hU], Wat.call C.2.2.2.2.2.2.2.2.2.1 C.2.2.2.2.2.2.2.2.2.2.1 C.2.2.2.2.2.2.2.2.2.2.2 T.1 T.2.1 T.2.2.1 hU hv⟩⟩ rfl (by rw [List.length_map]) T.2.2.2.1.1 (by simp [rv]) (st_cat hs) hdg (by rw [hR]; have := T.2.2.2.2.1; have := T.2.2.2.2.2; show cells + mc ≤ mcT ∧ slots + ms ≤ msT; omega)) hin kk
end STR
abbrev QP (v : Int32) (S : SH) (x : DY) : QT := fun r S' x' => r = some (.int v) ∧ S' = S ∧ x' = x
theorem QP_n {v : Int32} {S : SH} {x : DY} : ∀ r S' x', QP v S x r S' x' → S'.1 = S.1 := fun r S' x' q => congrArg Prod.fst q.2.1
theorem s_coder {d b : Nat} {S : SH} {x : DY} (hb : 5 ≤ b ∧ b < 16) : MA mJ0_coder_7d493 d [.ref b] S x 0 0 (QP 0 S x) := by
  refine MA.of [some (.ref b)] rfl (Nat.le_of_ble_eq_true rfl) (by decide +kernel) ?_
  refine r_compact (M := mJ0_coder_7d493) (tbI 697 (by decide +kernel) rfl) dJ0_coder_7d493_0 ?_
  refine r_if_eq (M := mJ0_coder_7d493) (tgt := 13) dJ0_coder_7d493_3 (by decide) (fun h => absurd h (by decide)) (fun _ => ?_)
  refine r_aload_n (M := mJ0_coder_7d493) (i := 0) rfl dJ0_coder_7d493_6 ?_
  refine r_scod (M := mJ0_coder_7d493) hb (tbI 1673 (by decide +kernel) rfl) dJ0_coder_7d493_7 ?_
  refine r_goto (M := mJ0_coder_7d493) (tgt := 14) dJ0_coder_7d493_10 (by decide) ?_
  exact r_zret (M := mJ0_coder_7d493) rfl rfl ⟨rfl, rfl, rfl⟩ dJ0_coder_7d493_14
theorem s_isLatin1 {d b : Nat} {S : SH} {x : DY} (hb : 5 ≤ b ∧ b < 16) : MA mJ0_isLatin1_aae02 d [.ref b] S x 0 0 (QP 1 S x) := by
  refine MA.of [some (.ref b)] rfl (Nat.le_of_ble_eq_true rfl) (by decide +kernel) ?_
  refine r_compact (M := mJ0_isLatin1_aae02) (tbI 697 (by decide +kernel) rfl) dJ0_isLatin1_aae02_0 ?_
  refine r_if_eq (M := mJ0_isLatin1_aae02) (tgt := 17) dJ0_isLatin1_aae02_3 (by decide) (fun h => absurd h (by decide)) (fun _ => ?_)
  refine r_aload_n (M := mJ0_isLatin1_aae02) (i := 0) rfl dJ0_isLatin1_aae02_6 ?_
  refine r_scod (M := mJ0_isLatin1_aae02) hb (tbI 1673 (by decide +kernel) rfl) dJ0_isLatin1_aae02_7 ?_
  refine r_if_ne (M := mJ0_isLatin1_aae02) (tgt := 17) dJ0_isLatin1_aae02_10 (by decide) (fun h => absurd rfl h) (fun _ => ?_)
  refine r_iconst (M := mJ0_isLatin1_aae02) (v := 1) (by decide) dJ0_isLatin1_aae02_13 ?_
  refine r_goto (M := mJ0_isLatin1_aae02) (tgt := 18) dJ0_isLatin1_aae02_14 (by decide) ?_
  exact r_zret (M := mJ0_isLatin1_aae02) rfl rfl ⟨rfl, rfl, rfl⟩ dJ0_isLatin1_aae02_18
theorem s_length {d b : Nat} {S : SH} {x : DY} (hb : 5 ≤ b ∧ b < 16) (hd : 2 ≤ d) (hlen : S.2.2.1 b < 100) : MA mJ0_length_8abf5 d [.ref b] S x 0 0 (QP (nI (S.2.2.1 b)) S x) := by
  refine MA.of [some (.ref b)] rfl (Nat.le_of_ble_eq_true rfl) (by decide +kernel) ?_
  refine r_aload_n (M := mJ0_length_8abf5) (i := 0) rfl dJ0_length_8abf5_0 ?_
  refine r_sval (M := mJ0_length_8abf5) hb (tbI 1672 (by decide +kernel) rfl) dJ0_length_8abf5_1 ?_
  refine r_salen (M := mJ0_length_8abf5) hb dJ0_length_8abf5_4 ?_
  refine r_aload_n (M := mJ0_length_8abf5) (i := 0) rfl dJ0_length_8abf5_5 ?_
  refine r_VS (M := mJ0_length_8abf5) (As := []) (st := [.int (nI (S.2.2.1 b))]) (k := 0) (n := 0) (tbI 693 (by decide +kernel) rfl) (tbI 694 (by decide +kernel) rfl) (tbI 695 (by decide +kernel) rfl) lb_J0_coder_7d493 (s_coder (d := d - 1) hb) (by omega) hb (Nat.le_of_ble_eq_true rfl) rfl dJ0_length_8abf5_6 (Or.inr QP_n) (fun r S' x' q _ => ?_)
  obtain ⟨rfl, rfl, rfl⟩ := q
  refine r_ishr (M := mJ0_length_8abf5) (v := nI (S'.2.2.1 b)) (sb_shr0 _) dJ0_length_8abf5_9 ?_
  exact r_iret (M := mJ0_length_8abf5) rfl ⟨rfl, rfl, rfl⟩ dJ0_length_8abf5_10
theorem s_check {d : Nat} {S : SH} {x : DY} {i j : Int32} (v : Value) (hv : v = .null ∨ v = .ref 27) (h0 : ¬ i < 0) (h1 : i < j) : MA mJ3_checkIndex_8e157 d [.int i, .int j, v] S x 0 0 (QP i S x) := by
  refine MA.of [some (.int i), some (.int j), some v] (by rcases hv with rfl | rfl <;> rfl) (by rcases hv with rfl | rfl <;> exact Nat.le_of_ble_eq_true rfl) (by decide +kernel) ?_
  refine r_iload_n (M := mJ3_checkIndex_8e157) (i := 0) rfl dJ3_checkIndex_8e157_0 ?_
  refine r_if_lt (M := mJ3_checkIndex_8e157) (tgt := 9) dJ3_checkIndex_8e157_1 (by decide) (fun h => absurd h h0) (fun _ => ?_)
  refine r_iload_n (M := mJ3_checkIndex_8e157) (i := 0) rfl dJ3_checkIndex_8e157_4 ?_
  refine r_iload_n (M := mJ3_checkIndex_8e157) (i := 1) rfl dJ3_checkIndex_8e157_5 ?_
  refine r_icmp_lt (M := mJ3_checkIndex_8e157) (tgt := 16) dJ3_checkIndex_8e157_6 (by decide) (fun _ => ?_) (fun h => absurd h1 h)
  refine r_iload_n (M := mJ3_checkIndex_8e157) (i := 0) rfl dJ3_checkIndex_8e157_16 ?_
  exact r_iret (M := mJ3_checkIndex_8e157) rfl ⟨rfl, rfl, rfl⟩ dJ3_checkIndex_8e157_17
theorem s_checkI {d : Nat} {S : SH} {x : DY} {i j : Int32} (hd : 2 ≤ d) (h0 : ¬ i < 0) (h1 : i < j) : MA mJ0_checkIndex_df160 d [.int i, .int j] S x 0 0 (fun r S' x' => r = none ∧ S' = S ∧ x' = x) := by
  refine MA.of [some (.int i), some (.int j)] rfl (Nat.le_of_ble_eq_true rfl) (by decide +kernel) ?_
  refine r_iload_n (M := mJ0_checkIndex_df160) (i := 0) rfl dJ0_checkIndex_df160_0 ?_
  refine r_iload_n (M := mJ0_checkIndex_df160) (i := 1) rfl dJ0_checkIndex_df160_1 ?_
  have key : ∀ v : Value, v = .null ∨ v = .ref 27 → MW mJ0_checkIndex_df160 d 0 0 (fun r S' x' => r = none ∧ S' = S ∧ x' = x) 5 [some (.int i), some (.int j)] [v, .int j, .int i] S x 0 0 := by
    intro v hv
    refine r_S (M := mJ0_checkIndex_df160) (As := [.int i, .int j, v]) (st := []) (k := 0) (n := 0) ⟨(tbI 715 (by decide +kernel) rfl), (tbI 716 (by decide +kernel) rfl)⟩ lb_J3_checkIndex_8e157 (s_check (d := d - 1) v hv h0 h1) (by omega) (Nat.le_of_ble_eq_true rfl) rfl dJ0_checkIndex_df160_5 (Or.inr QP_n) (fun r S' x' q _ => ?_)
    obtain ⟨rfl, rfl, rfl⟩ := q
    refine r_pop (M := mJ0_checkIndex_df160) (v := .int i) rfl dJ0_checkIndex_df160_8 ?_
    exact r_vret (M := mJ0_checkIndex_df160) rfl ⟨rfl, rfl, rfl⟩ dJ0_checkIndex_df160_9
  show MW mJ0_checkIndex_df160 d 0 0 _ 2 [some (.int i), some (.int j)] [.int j, .int i] S x 0 0
  refine r_sioobe (M := mJ0_checkIndex_df160) (tbI 713 (by decide +kernel) rfl) dJ0_checkIndex_df160_2 ?_ ?_
  · exact key _ (Or.inl rfl)
  · exact key _ (Or.inr rfl)
theorem s_charAtL {d b : Nat} {S : SH} {x : DY} {j : Int32} (hb : 5 ≤ b ∧ b < 16) (hd : 4 ≤ d) (hi : ix S b j) (hlen : S.2.2.1 b < 100) (hc : (((x.1 b j.toNatClampNeg) &&& 255).toUInt32 % 65536).toInt32 = x.1 b j.toNatClampNeg ∧ narrow .char (.int (x.1 b j.toNatClampNeg)) = .int (x.1 b j.toNatClampNeg)) : MA mJ1_charAt_3b067 d [.ref (b + 11), .int j] S x 0 0 (QP (x.1 b j.toNatClampNeg) S x) := by
  have h0 : ¬ j < 0 := fun h => hi (Or.inl h)
  have h1 : j < nI (S.2.2.1 b) := by
    obtain ⟨q, hq, rfl⟩ := nI_of h0
    have : q < S.2.2.1 b := by
      have := Nat.not_le.mp fun q => hi (Or.inr q)
      rwa [nI_clamp hq] at this
    exact nI_lt this (by omega)
  refine MA.of [some (.ref (b + 11)), some (.int j)] rfl (Nat.le_of_ble_eq_true rfl) (by decide +kernel) ?_
  refine r_iload_n (M := mJ1_charAt_3b067) (i := 1) rfl dJ1_charAt_3b067_0 ?_
  refine r_aload_n (M := mJ1_charAt_3b067) (i := 0) rfl dJ1_charAt_3b067_1 ?_
  refine r_salen (M := mJ1_charAt_3b067) hb dJ1_charAt_3b067_2 ?_
  refine r_S (M := mJ1_charAt_3b067) (As := [.int j, .int (nI (S.2.2.1 b))]) (st := []) (k := 0) (n := 0) ⟨(tbI 710 (by decide +kernel) rfl), (tbI 711 (by decide +kernel) rfl)⟩ lb_J0_checkIndex_df160 (s_checkI (d := d - 1) (by omega) h0 h1) (by omega) (Nat.le_of_ble_eq_true rfl) rfl dJ1_charAt_3b067_3 (Or.inr fun r S' x' q => congrArg Prod.fst q.2.1) (fun r S' x' q _ => ?_)
  obtain ⟨rfl, rfl, rfl⟩ := q
  refine r_aload_n (M := mJ1_charAt_3b067) (i := 0) rfl dJ1_charAt_3b067_6 ?_
  refine r_iload_n (M := mJ1_charAt_3b067) (i := 1) rfl dJ1_charAt_3b067_7 ?_
  refine r_sbald (M := mJ1_charAt_3b067) hb hi dJ1_charAt_3b067_8 ?_
  refine r_sipush (M := mJ1_charAt_3b067) (v := 255) (by decide) dJ1_charAt_3b067_9 ?_
  refine r_iand (M := mJ1_charAt_3b067) dJ1_charAt_3b067_12 ?_
  refine r_i2c (M := mJ1_charAt_3b067) dJ1_charAt_3b067_13 ?_
  rw [hc.1]
  exact r_zret (M := mJ1_charAt_3b067) rfl hc.2 ⟨rfl, rfl, rfl⟩ dJ1_charAt_3b067_14
theorem s_charAt {d b : Nat} {S : SH} {x : DY} {j : Int32} (hb : 5 ≤ b ∧ b < 16) (hd : 5 ≤ d) (hi : ix S b j) (hlen : S.2.2.1 b < 100) (hc : (((x.1 b j.toNatClampNeg) &&& 255).toUInt32 % 65536).toInt32 = x.1 b j.toNatClampNeg ∧ narrow .char (.int (x.1 b j.toNatClampNeg)) = .int (x.1 b j.toNatClampNeg)) : MA mJ0_charAt_5068e d [.ref b, .int j] S x 0 0 (QP (x.1 b j.toNatClampNeg) S x) := by
  refine MA.of [some (.ref b), some (.int j)] rfl (Nat.le_of_ble_eq_true rfl) (by decide +kernel) ?_
  refine r_aload_n (M := mJ0_charAt_5068e) (i := 0) rfl dJ0_charAt_5068e_0 ?_
  refine r_VS (M := mJ0_charAt_5068e) (As := []) (st := []) (k := 0) (n := 0) (tbI 703 (by decide +kernel) rfl) (tbI 704 (by decide +kernel) rfl) (tbI 705 (by decide +kernel) rfl) lb_J0_isLatin1_aae02 (s_isLatin1 (d := d - 1) hb) (by omega) hb (Nat.le_of_ble_eq_true rfl) rfl dJ0_charAt_5068e_1 (Or.inr QP_n) (fun r S' x' q _ => ?_)
  obtain ⟨rfl, rfl, rfl⟩ := q
  refine r_if_eq (M := mJ0_charAt_5068e) (tgt := 16) dJ0_charAt_5068e_4 (by decide) (fun h => absurd h (by decide)) (fun _ => ?_)
  refine r_aload_n (M := mJ0_charAt_5068e) (i := 0) rfl dJ0_charAt_5068e_7 ?_
  refine r_sval (M := mJ0_charAt_5068e) hb (tbI 1672 (by decide +kernel) rfl) dJ0_charAt_5068e_8 ?_
  refine r_iload_n (M := mJ0_charAt_5068e) (i := 1) rfl dJ0_charAt_5068e_11 ?_
  refine r_S (M := mJ0_charAt_5068e) (As := [.ref (b + 11), .int j]) (st := []) (k := 0) (n := 0) ⟨(tbI 707 (by decide +kernel) rfl), (tbI 708 (by decide +kernel) rfl)⟩ lb_J1_charAt_3b067 (s_charAtL (d := d - 1) hb (by omega) hi hlen hc) (by omega) (Nat.le_of_ble_eq_true rfl) rfl dJ0_charAt_5068e_12 (Or.inr QP_n) (fun r S' x' q _ => ?_)
  obtain ⟨rfl, rfl, rfl⟩ := q
  exact r_zret (M := mJ0_charAt_5068e) rfl hc.2 ⟨rfl, rfl, rfl⟩ dJ0_charAt_5068e_15
/-- a walk may use what every world holds of the texts -/
theorem MW.ex {M : MI} {d mcT msT : Nat} {Q : QT} {pc : Nat} {ls : List (Option Value)} {st : List Value} {S : SH} {x : DY} {k n : Nat} (h : EX S x → MW M d mcT msT Q pc ls st S x k n) : MW M d mcT msT Q pc ls st S x k n := by
  intro p l e R s m args below meth c' D ty σ0 S0 C σ H locs cells slots LS T
  exact h T.1.2.2.1 C T
section GOS
variable {ρ : Type} {M : MI} {d : Nat} {S : SH} {w : ρ → Option Value × DY} {pc pc' : Nat} {ls : List (Option Value)} {st : List Value} {x : DY} {o : Option ρ}
theorem ex_len {b : Nat} (h : EX S x) (hb : 5 ≤ b ∧ b < 16) : S.2.2.1 b < 100 := by
  rw [(h b (by omega)).1, show b = 5 + (b - 5) by omega]; exact exSmall (b - 5) (by omega)
theorem go_slen {i b : Nat} (hp : pc' = pc + 3) (hb : 5 ≤ b ∧ b < 16) (hw : Cond.methodLink M.1.cls i ⟨"java/lang/String", "length", "()I"⟩ ∈ tb) (hd1 : 4 ≤ d) (hs : (st.map fun v => v.category).sum ≤ 8) (hdg : decode M.2.1 pc = .ok (.invokevirtual i, 3)) (k : Go M d S w pc' ls (.int (nI (S.2.2.1 b)) :: st) x o) : Go M d S w pc ls (.ref b :: st) x o := by
  subst hp
  intro a ha
  refine MW.ex (fun hE => ?_)
  refine r_VS (M' := mJ0_length_8abf5) (As := []) (st := st) (k := 0) (n := 0) hw (tbI 690 (by decide +kernel) rfl) (tbI 691 (by decide +kernel) rfl) lb_J0_length_8abf5 (s_length (d := d - 1) hb (by omega) (ex_len hE hb)) (by omega) hb hs rfl hdg (Or.inr QP_n) (fun r S' x' q _ => ?_)
  obtain ⟨rfl, rfl, rfl⟩ := q
  exact k a ha
theorem go_schar {i b : Nat} {j : Int32} (hp : pc' = pc + 3) (hb : 5 ≤ b ∧ b < 16) (hi : ix S b j) (hw : Cond.methodLink M.1.cls i ⟨"java/lang/String", "charAt", "(I)C"⟩ ∈ tb) (hd1 : 6 ≤ d) (hs : (st.map fun v => v.category).sum ≤ 8) (hdg : decode M.2.1 pc = .ok (.invokevirtual i, 3)) (k : Go M d S w pc' ls (.int (x.1 b j.toNatClampNeg) :: st) x o) : Go M d S w pc ls (.int j :: .ref b :: st) x o := by
  subst hp
  intro a ha
  refine MW.ex (fun hE => ?_)
  have hj : j.toNatClampNeg < (exV b).length := by rw [← (hE b (by omega)).1]; exact Nat.not_le.mp fun q => hi (Or.inr q)
  have hc := exAsc (b - 5) (by omega) j.toNatClampNeg (by rw [show 5 + (b - 5) = b by omega]; exact hj)
  rw [show 5 + (b - 5) = b by omega, ← (hE b (by omega)).2 _ hj] at hc
  have hA := s_charAt (d := d - 1) hb (by omega) hi (ex_len hE hb) hc
  show MW M d 0 0 (fun r S' x' => r = (w a).1 ∧ S' = S ∧ x' = (w a).2) pc ls (.int j :: .ref b :: st) S x (0 + 0) (0 + 0)
  refine r_VS (M := M) (M' := mJ0_charAt_5068e) (d := d) (d' := d - 1) (As := [.int j]) (st := st) (st0 := .int j :: .ref b :: st) (mcT := 0) (msT := 0) (mc := 0) (ms := 0) (ls := ls) (pc := pc) (S := S) (x := x) (k := 0) (n := 0) hw (tbI 700 (by decide +kernel) rfl) (tbI 701 (by decide +kernel) rfl) lb_J0_charAt_5068e hA (by omega) hb hs rfl hdg (Or.inr QP_n) ?_
  intro r S' x' q _
  obtain ⟨rfl, rfl, rfl⟩ := q
  exact k a ha
end GOS
