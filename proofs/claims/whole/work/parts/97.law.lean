theorem law_run (X : aX) (hX : X.1 ≤ 3072) (m0 : aMem) (h : am_iniM m0 = true) : gG X 0 18 [.ref 0, .ref 1, .ref 53, .int 0] [] m0 (fun r _ => r = some (.int 1)) := sorry
