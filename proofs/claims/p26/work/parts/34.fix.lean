/-! ===== literal states, what is common ===== -/
theorem tI_00 : tI t00 := tIB_of (by decide +kernel)
def vB (m : Tr) : Bool := allN (fun n => !(cel m (n / 8) (n % 8)) || !(decide (m.2.2.2 n = -20001))) 192
theorem vB_of {m : Tr} (h : vB m = true) : ∀ r c, r < 24 → c < 8 → cel m r c = true → ¬ m.2.2.2 (r * 8 + c) = -20001 := fun r c hr hc hm => by
  have z : (!(cel m ((r * 8 + c) / 8) ((r * 8 + c) % 8)) || !(decide (m.2.2.2 (r * 8 + c) = -20001))) = true := allN_of h (r * 8 + c) (by omega)
  rw [show (r * 8 + c) / 8 = r by omega, show (r * 8 + c) % 8 = c by omega, hm] at z
  intro w
  rw [decide_eq_true w] at z
  cases z
theorem acc_E {zb zo zt zm : Tr} {zl : Lr} {zf : Int32} (h : f_X2_accept_x zl zf = 0) : tE (f_X2_accept zb zo zt zm zl zf).2.1 zm ∧ tE (f_X2_accept zb zo zt zm zl zf).2.2.1 zm ∧ tE (f_X2_accept zb zo zt zm zl zf).2.2.2.1 zm ∧ tE (f_X2_accept zb zo zt zm zl zf).2.2.2.2.1 t00 ∧ (f_X2_accept zb zo zt zm zl zf).2.2.2.2.2.2 = 0 := by
  rw [f_X2_accept_x] at h
  by_cases h1 : zf = 0
  · rw [if_pos h1] at h; exact absurd h (by decide)
  · rw [if_neg h1] at h
    by_cases h2 : zl.2.1 ≤ 0
    · rw [f_X2_accept, if_neg h1, if_pos h2]
      exact ⟨like_E zb zm, (like_E zo _).tr (like_E zb zm), (like_E zt _).tr (like_E zb zm), emp_E zm, rfl⟩
    · rw [if_neg h2] at h; exact absurd h (by decide)
