def okW : Cond → Bool
  | .fieldLinkNest .. => true
  | .castable .. => true
  | .declares .. => true
  | c => goodWord c
def TG (c : Cond) : Prop := c ∈ lw_tbl ∧ okW c = true
theorem tgm {c : Cond} (i : Nat) (h : tables_1[i]? = some c) (g : okW c = true) : TG c := ⟨List.mem_append_right _ (List.mem_of_getElem? h), g⟩
