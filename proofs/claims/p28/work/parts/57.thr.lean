/-! behind a throw; what the reference's contracts ask -/
section TH
variable {γ : kG} {L : List Nat} {F : kF} {o : Nat} {ad : cAd} {tg : cTg} {M M' : mM} {nd : Nat} {D : cD} {k : Int32}
theorem Thr.form (h : Thr M M' k) : ∃ z : Nat → Int32, M' = fun q => if q = 24 then z else M q := ⟨M' 24, funext fun q => by
  by_cases e : q = 24
  · rw [if_pos e, e]
  · rw [if_neg e]; exact h.1 q e⟩
theorem RepC.thr (h : RepC γ L F o ad tg M nd D) (ht : Thr M M' k) : RepC γ L F o ad tg M' nd D := by
  obtain ⟨z, rfl⟩ := ht.form
  exact h.same rfl (fun _ => rfl) rfl rfl (fun _ => rfl) (fun _ _ => rfl) (fun _ => rfl) rfl rfl rfl
theorem Inv.thr (hI : Inv M nd D) (ht : Thr M M' k) : Inv M' nd D := by
  obtain ⟨z, rfl⟩ := ht.form
  exact hI
theorem Inv.xz (hI : Inv M nd D) : ∀ i, nn M ≤ i → M 13 i = 0 := fun i hi => (hI.2.2.2.2.2.2.2.2.2.1 i hi).2.2.2
theorem Inv.xci (hI : Inv M nd D) : ∀ k, k < cc M → okI (M 19 k) 20 := fun k hk => okI_mono (hI.2.2.2.2.1 k hk) hI.1.2
theorem Inv.xs (hI : Inv M nd D) : ∀ i, i < nn M → okI (M 3 i) 6 ∧ okI (M 4 i) 6 ∧ okI (M 9 i) 6 := fun i hi => ⟨(hI.2.2.2.2.2.1 i hi).1, (hI.2.2.2.2.2.1 i hi).2.1, (hI.2.2.2.2.2.1 i hi).2.2.1⟩
end TH
