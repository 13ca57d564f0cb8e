theorem rel_all : ∃ Rel : Sg → Sg → Prop, RelOk Rel ∧ Rel sC0 sM0 := sorry
