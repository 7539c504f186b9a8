theorem law_run (l : List Int32) (h : l.length ≤ 3072) : ∃ k, GoF (CallD 40) (some l) 14 false ret 280 9000 0 code (fun v _ => v = some (.int 1)) k 0 (gent 4 [.retAddr 0]) [] [] 0 := sorry
