/-! MIRRORS: a text's length and characters -/
section GOS
variable {ρ : Type} {M : MI} {d : Nat} {S : SH} {w : ρ → Option Value × DY} {pc pc' : Nat} {ls : List (Option Value)} {st : List Value} {x : DY} {o : Option ρ}
theorem go_slen {i b : Nat} (hp : pc' = pc + 3) (hb : 5 ≤ b ∧ b < 16) (hw : Cond.methodLink M.1.cls i ⟨"java/lang/String", "length", "()I"⟩ ∈ tb) (hd1 : 4 ≤ d) (hs : (st.map fun v => v.category).sum ≤ 8) (hdg : decode M.2.1 pc = .ok (.invokevirtual i, 3)) (k : Go M d S w pc' ls (.int (nI (S.2.2.1 b)) :: st) x o) : Go M d S w pc ls (.ref b :: st) x o := sorry
theorem go_schar {i b : Nat} {j : Int32} (hp : pc' = pc + 3) (hb : 5 ≤ b ∧ b < 16) (hi : ix S b j) (hw : Cond.methodLink M.1.cls i ⟨"java/lang/String", "charAt", "(I)C"⟩ ∈ tb) (hd1 : 6 ≤ d) (hs : (st.map fun v => v.category).sum ≤ 8) (hdg : decode M.2.1 pc = .ok (.invokevirtual i, 3)) (k : Go M d S w pc' ls (.int (x.1 b j.toNatClampNeg) :: st) x o) : Go M d S w pc ls (.int j :: .ref b :: st) x o := sorry
end GOS
