theorem law_run (X : aX) (hX : X.1 ≤ 3072) (m0 : aMem) (h : am_iniM m0 = true) : gG X 0 18 [.ref 0, .ref 1, .ref 53, .int 0] [] m0 (fun r _ => r = some (.int 1)) := by
  obtain ⟨hC, hM, hO⟩ := ini_all h
  obtain ⟨n, r, m', e, v, er, ev⟩ := law_loop X hX 512 0 m0 (A0 m0) (by omega) (by omega) hC hM hO
  exact ⟨n, r, m', e, by rw [er]; show some (Value.int v) = _; rw [show v = 1 from ev]⟩
