def e_Hid (P : Prop) : Prop := P
def e_H5 (w c : Int) : Prop := w = 0 → (c = 40 ∨ c = 123 ∨ c = 60 ∨ c = 42 ∨ c = 126)
