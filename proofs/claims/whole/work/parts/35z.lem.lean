theorem fbS_b2 {t : Nat → Nat → Nat} {L : Nat → Nat} {p : Nat → Bool} {fa v : Nat} (h : ∀ j, j ≤ 40 → L j ≤ 9) (hf : fa ≤ 99) : fbS t L p fa v ≤ 12830400 := by
  have := sz_le (f := fun k => faS L (prt t p v k) (giS L (prt t p v k) fa) * fa) (M := 1425600) 9 (fun k _ => faS_b2 h (giS_in _ _ _).2 hf)
  unfold fbS; omega
