/-! locals and place written out again -/
theorem am_nl {d : Nat} {M : am_M} {pc pc' : Nat} {l l' : List (Option Value)} {st : List Value} {h : am_H} {o : am_O} (hp : pc = pc') (hl : l = l') (k : am_Sem d M pc' l' st h o) : am_Sem d M pc l st h o := by subst hp; subst hl; exact k
theorem Eam_nl {d : Nat} {M : am_M} {pc pc' : Nat} {l l' : List (Option Value)} {st : List Value} {h : am_H} {Ps : Option Value → am_H → Prop} (hp : pc = pc') (hl : l = l') (k : am_E d M pc' l' st h Ps) : am_E d M pc l st h Ps := by subst hp; subst hl; exact k
