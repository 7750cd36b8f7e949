theorem goodIn_c1 {big a : List Cond} {c : Cond} (h1 : GoodIn big [c]) (h2 : GoodIn big a) : GoodIn big (c :: a) := fun w h => (List.mem_cons.mp h).elim (fun e => h1 w (List.mem_cons.mpr (Or.inl e))) (h2 w)
theorem goodIn_nil {big : List Cond} : GoodIn big [] := fun w h => absurd h List.not_mem_nil
theorem goodIn_1 {big : List Cond} {w : Cond} (i : Nat) (hi : big[i]? = some w) (hg : goodWord w = true) : GoodIn big [w] := fun v h => by
  rw [List.mem_singleton.mp h]
  exact ⟨List.mem_of_getElem? hi, good_of_word hg⟩
