/-! writers: wine; and what the reference's reading leaves alike -/
theorem Sm.dv {τ τ' : MSt} (h : Sm τ τ') : Dv τ τ' := ⟨h.2 26 (by omega), fun j _ => by rw [h.1]⟩
theorem Rel.smR {S : XSh} {σ : XSt} {τ τ' : MSt} (h : Rel S σ τ) (k : Sm τ τ') : Rel S σ τ' := by
  have a (j : Nat) : τ'.2.2 j = τ.2.2 j := by rw [k.1]
  exact ⟨h.w.tr rfl (k.2 12 (by omega)) (fun j _ _ => a j), h.b.tr rfl k.dv (k.2 20 (by omega)) (a 10), h.s.tr rfl (fun _ _ _ => rfl) k.dv, h.d.tr rfl k.dv, h.k.tr (fun _ _ _ => rfl) (fun j _ _ => a j), h.i.tr rfl rfl rfl rfl rfl (fun j _ _ => k.2 j (by omega)) (fun j _ _ => a j), h.r.tr rfl rfl rfl (k.2 3 (by omega)) (k.2 4 (by omega)) k.dv, h.t.tr rfl rfl (k.2 6 (by omega)) (a 5), h.g.tr rfl k.dv (fun j _ _ => a j), h.h.tr rfl rfl (fun j _ _ => a j)⟩
theorem Al.smR {S : XSh} {σ : XSt} {τ τ' : MSt} (h : Al S σ τ) (k : Sm τ τ') : Al S σ τ' := ⟨h.1.smR k, h.2.1, h.2.2.sm k⟩
theorem Al.q {S : XSh} {σ σ' : XSt} {τ : MSt} (h : Al S σ τ) (k : XQ σ σ') : Al S σ' τ := ⟨h.1.q k, h.2.1.q k, h.2.2⟩
