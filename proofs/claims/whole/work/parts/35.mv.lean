/-- THE REFERENCE's OBJECT, as it stands for the same numbers -/
def MV (np ns day nr tr fl : Int) (rg kd nm sg pt : Int → Int) (ca : Int → Int → Int) (rs rp rl th la ln : Int → Int) (ce : Int → Int → Int) (μ : Int → ME) : Prop :=
  (∃ at_ rP rS lp lw lf sL sF : Int, μ 42 = oM fl tr np ns day at_ rP rS lp lw lf sL sF nr) ∧
  (∃ f, μ 43 = mA 4 f ∧ ∀ k, 0 ≤ k → k < 4 → f k = if th k = 0 then -9 else la k) ∧
  (∃ f, μ 44 = mA 4 f ∧ ∀ k, 0 ≤ k → k < 4 → th k ≠ 0 → f k = ln k) ∧
  (∃ f, μ 45 = mA 240 f ∧ ∀ k, 0 ≤ k → k < 4 → th k ≠ 0 → ∀ j, 0 ≤ j → j < ln k → f (60 * k + j) = ce k j) ∧
  MB rg kd nm sg np ns μ ∧
  (∃ pf cf : Int → Int, μ 50 = mA 5 pf ∧ μ 51 = mA 20 cf ∧ MR ns (pt, ca, 0, 0, -9) pf cf) ∧
  ((∃ f, μ 52 = mA 6 f) ∧ (∃ f, μ 53 = mA 40 f) ∧ (∃ f, μ 54 = mA 5 f) ∧ (∃ f, μ 55 = mA 20 f) ∧ (∃ f, μ 56 = mA 4 f)) ∧
  (∃ f, μ 57 = mA 8 f ∧ ∀ i, 0 ≤ i → i < nr → f i = rs i) ∧ (∃ f, μ 58 = mA 8 f ∧ ∀ i, 0 ≤ i → i < nr → f i = rp i) ∧ (∃ f, μ 59 = mA 8 f ∧ ∀ i, 0 ≤ i → i < nr → f i = rl i)
theorem MV.eq {np ns day nr tr fl : Int} {rg kd nm sg pt : Int → Int} {ca : Int → Int → Int} {rs rp rl th la ln : Int → Int} {ce : Int → Int → Int} {μ μ' : Int → ME} (h : MV np ns day nr tr fl rg kd nm sg pt ca rs rp rl th la ln ce μ) (he : ∀ a, 42 ≤ a → μ' a = μ a) : MV np ns day nr tr fl rg kd nm sg pt ca rs rp rl th la ln ce μ' := by
  unfold MV MB at *
  rw [he 42 (by omega), he 43 (by omega), he 44 (by omega), he 45 (by omega), he 46 (by omega), he 47 (by omega), he 48 (by omega), he 49 (by omega), he 50 (by omega), he 51 (by omega), he 52 (by omega), he 53 (by omega), he 54 (by omega), he 55 (by omega), he 56 (by omega), he 57 (by omega), he 58 (by omega), he 59 (by omega)]
  exact h

theorem MV_42 {np ns day nr tr fl : Int} {rg kd nm sg pt : Int → Int} {ca : Int → Int → Int} {rs rp rl th la ln : Int → Int} {ce : Int → Int → Int} {μ : Int → ME} {day' nr' tr' fl' at_ rP rS lp lw lf sL sF : Int} (h : MV np ns day nr tr fl rg kd nm sg pt ca rs rp rl th la ln ce μ) (hnr : nr' ≤ nr) : MV np ns (day') (nr') (tr') (fl') rg kd nm sg pt ca rs rp rl th la ln ce (mup μ (42) (oM fl' tr' np ns day' at_ rP rS lp lw lf sL sF nr')) := by
  obtain ⟨m42, m43, m44, m45, ⟨m46, m47, m48, m49⟩, mD, ⟨m52, m53, m54, m55, m56⟩, m57, m58, m59⟩ := h
  exact ⟨⟨_, _, _, _, _, _, _, _, mup_s _ _ _⟩, m43.imp fun _ h => ⟨mg_n (by omega) h.1, h.2⟩, m44.imp fun _ h => ⟨mg_n (by omega) h.1, h.2⟩, m45.imp fun _ h => ⟨mg_n (by omega) h.1, h.2⟩, ⟨m46.imp fun _ h => ⟨mg_n (by omega) h.1, h.2⟩, m47.imp fun _ h => ⟨mg_n (by omega) h.1, h.2⟩, m48.imp fun _ h => ⟨mg_n (by omega) h.1, h.2⟩, m49.imp fun _ h => ⟨mg_n (by omega) h.1, h.2⟩⟩, mD.imp fun _ h => h.imp fun _ h => ⟨mg_n (by omega) h.1, mg_n (by omega) h.2.1, h.2.2⟩, ⟨m52.imp fun _ h => mg_n (by omega) h, m53.imp fun _ h => mg_n (by omega) h, m54.imp fun _ h => mg_n (by omega) h, m55.imp fun _ h => mg_n (by omega) h, m56.imp fun _ h => mg_n (by omega) h⟩, m57.imp fun _ h => ⟨mg_n (by omega) h.1, fun i i0 i1 => h.2 i i0 (by omega)⟩, m58.imp fun _ h => ⟨mg_n (by omega) h.1, fun i i0 i1 => h.2 i i0 (by omega)⟩, m59.imp fun _ h => ⟨mg_n (by omega) h.1, fun i i0 i1 => h.2 i i0 (by omega)⟩⟩

theorem MV_46 {np ns day nr tr fl : Int} {rg kd nm sg pt : Int → Int} {ca : Int → Int → Int} {rs rp rl th la ln : Int → Int} {ce : Int → Int → Int} {μ : Int → ME} {g rg' : Int → Int} (h : MV np ns day nr tr fl rg kd nm sg pt ca rs rp rl th la ln ce μ) (hg : ∀ p, 0 ≤ p → p < np → g p = rg' p) : MV np ns day nr tr fl (rg') kd nm sg pt ca rs rp rl th la ln ce (mup μ (46) (mA 6 g)) := by
  obtain ⟨m42, m43, m44, m45, ⟨m46, m47, m48, m49⟩, mD, ⟨m52, m53, m54, m55, m56⟩, m57, m58, m59⟩ := h
  exact ⟨m42.imp fun _ h => h.imp fun _ h => h.imp fun _ h => h.imp fun _ h => h.imp fun _ h => h.imp fun _ h => h.imp fun _ h => h.imp fun _ h => mg_n (by omega) h, m43.imp fun _ h => ⟨mg_n (by omega) h.1, h.2⟩, m44.imp fun _ h => ⟨mg_n (by omega) h.1, h.2⟩, m45.imp fun _ h => ⟨mg_n (by omega) h.1, h.2⟩, ⟨⟨g, mup_s _ _ _, hg⟩, m47.imp fun _ h => ⟨mg_n (by omega) h.1, h.2⟩, m48.imp fun _ h => ⟨mg_n (by omega) h.1, h.2⟩, m49.imp fun _ h => ⟨mg_n (by omega) h.1, h.2⟩⟩, mD.imp fun _ h => h.imp fun _ h => ⟨mg_n (by omega) h.1, mg_n (by omega) h.2.1, h.2.2⟩, ⟨m52.imp fun _ h => mg_n (by omega) h, m53.imp fun _ h => mg_n (by omega) h, m54.imp fun _ h => mg_n (by omega) h, m55.imp fun _ h => mg_n (by omega) h, m56.imp fun _ h => mg_n (by omega) h⟩, m57.imp fun _ h => ⟨mg_n (by omega) h.1, h.2⟩, m58.imp fun _ h => ⟨mg_n (by omega) h.1, h.2⟩, m59.imp fun _ h => ⟨mg_n (by omega) h.1, h.2⟩⟩

theorem MV_47 {np ns day nr tr fl : Int} {rg kd nm sg pt : Int → Int} {ca : Int → Int → Int} {rs rp rl th la ln : Int → Int} {ce : Int → Int → Int} {μ : Int → ME} {g kd' : Int → Int} (h : MV np ns day nr tr fl rg kd nm sg pt ca rs rp rl th la ln ce μ) (hg : ∀ p, 0 ≤ p → p < ns → g p = kd' p) : MV np ns day nr tr fl rg (kd') nm sg pt ca rs rp rl th la ln ce (mup μ (47) (mA 5 g)) := by
  obtain ⟨m42, m43, m44, m45, ⟨m46, m47, m48, m49⟩, mD, ⟨m52, m53, m54, m55, m56⟩, m57, m58, m59⟩ := h
  exact ⟨m42.imp fun _ h => h.imp fun _ h => h.imp fun _ h => h.imp fun _ h => h.imp fun _ h => h.imp fun _ h => h.imp fun _ h => h.imp fun _ h => mg_n (by omega) h, m43.imp fun _ h => ⟨mg_n (by omega) h.1, h.2⟩, m44.imp fun _ h => ⟨mg_n (by omega) h.1, h.2⟩, m45.imp fun _ h => ⟨mg_n (by omega) h.1, h.2⟩, ⟨m46.imp fun _ h => ⟨mg_n (by omega) h.1, h.2⟩, ⟨g, mup_s _ _ _, hg⟩, m48.imp fun _ h => ⟨mg_n (by omega) h.1, h.2⟩, m49.imp fun _ h => ⟨mg_n (by omega) h.1, h.2⟩⟩, mD.imp fun _ h => h.imp fun _ h => ⟨mg_n (by omega) h.1, mg_n (by omega) h.2.1, h.2.2⟩, ⟨m52.imp fun _ h => mg_n (by omega) h, m53.imp fun _ h => mg_n (by omega) h, m54.imp fun _ h => mg_n (by omega) h, m55.imp fun _ h => mg_n (by omega) h, m56.imp fun _ h => mg_n (by omega) h⟩, m57.imp fun _ h => ⟨mg_n (by omega) h.1, h.2⟩, m58.imp fun _ h => ⟨mg_n (by omega) h.1, h.2⟩, m59.imp fun _ h => ⟨mg_n (by omega) h.1, h.2⟩⟩

theorem MV_48 {np ns day nr tr fl : Int} {rg kd nm sg pt : Int → Int} {ca : Int → Int → Int} {rs rp rl th la ln : Int → Int} {ce : Int → Int → Int} {μ : Int → ME} {g nm' : Int → Int} (h : MV np ns day nr tr fl rg kd nm sg pt ca rs rp rl th la ln ce μ) (hg : ∀ p, 0 ≤ p → p < ns → g p = nm' p) : MV np ns day nr tr fl rg kd (nm') sg pt ca rs rp rl th la ln ce (mup μ (48) (mA 5 g)) := by
  obtain ⟨m42, m43, m44, m45, ⟨m46, m47, m48, m49⟩, mD, ⟨m52, m53, m54, m55, m56⟩, m57, m58, m59⟩ := h
  exact ⟨m42.imp fun _ h => h.imp fun _ h => h.imp fun _ h => h.imp fun _ h => h.imp fun _ h => h.imp fun _ h => h.imp fun _ h => h.imp fun _ h => mg_n (by omega) h, m43.imp fun _ h => ⟨mg_n (by omega) h.1, h.2⟩, m44.imp fun _ h => ⟨mg_n (by omega) h.1, h.2⟩, m45.imp fun _ h => ⟨mg_n (by omega) h.1, h.2⟩, ⟨m46.imp fun _ h => ⟨mg_n (by omega) h.1, h.2⟩, m47.imp fun _ h => ⟨mg_n (by omega) h.1, h.2⟩, ⟨g, mup_s _ _ _, hg⟩, m49.imp fun _ h => ⟨mg_n (by omega) h.1, h.2⟩⟩, mD.imp fun _ h => h.imp fun _ h => ⟨mg_n (by omega) h.1, mg_n (by omega) h.2.1, h.2.2⟩, ⟨m52.imp fun _ h => mg_n (by omega) h, m53.imp fun _ h => mg_n (by omega) h, m54.imp fun _ h => mg_n (by omega) h, m55.imp fun _ h => mg_n (by omega) h, m56.imp fun _ h => mg_n (by omega) h⟩, m57.imp fun _ h => ⟨mg_n (by omega) h.1, h.2⟩, m58.imp fun _ h => ⟨mg_n (by omega) h.1, h.2⟩, m59.imp fun _ h => ⟨mg_n (by omega) h.1, h.2⟩⟩

theorem MV_49 {np ns day nr tr fl : Int} {rg kd nm sg pt : Int → Int} {ca : Int → Int → Int} {rs rp rl th la ln : Int → Int} {ce : Int → Int → Int} {μ : Int → ME} {g sg' : Int → Int} (h : MV np ns day nr tr fl rg kd nm sg pt ca rs rp rl th la ln ce μ) (hg : ∀ p, 0 ≤ p → p < ns → g p = sg' p) : MV np ns day nr tr fl rg kd nm (sg') pt ca rs rp rl th la ln ce (mup μ (49) (mA 5 g)) := by
  obtain ⟨m42, m43, m44, m45, ⟨m46, m47, m48, m49⟩, mD, ⟨m52, m53, m54, m55, m56⟩, m57, m58, m59⟩ := h
  exact ⟨m42.imp fun _ h => h.imp fun _ h => h.imp fun _ h => h.imp fun _ h => h.imp fun _ h => h.imp fun _ h => h.imp fun _ h => h.imp fun _ h => mg_n (by omega) h, m43.imp fun _ h => ⟨mg_n (by omega) h.1, h.2⟩, m44.imp fun _ h => ⟨mg_n (by omega) h.1, h.2⟩, m45.imp fun _ h => ⟨mg_n (by omega) h.1, h.2⟩, ⟨m46.imp fun _ h => ⟨mg_n (by omega) h.1, h.2⟩, m47.imp fun _ h => ⟨mg_n (by omega) h.1, h.2⟩, m48.imp fun _ h => ⟨mg_n (by omega) h.1, h.2⟩, ⟨g, mup_s _ _ _, hg⟩⟩, mD.imp fun _ h => h.imp fun _ h => ⟨mg_n (by omega) h.1, mg_n (by omega) h.2.1, h.2.2⟩, ⟨m52.imp fun _ h => mg_n (by omega) h, m53.imp fun _ h => mg_n (by omega) h, m54.imp fun _ h => mg_n (by omega) h, m55.imp fun _ h => mg_n (by omega) h, m56.imp fun _ h => mg_n (by omega) h⟩, m57.imp fun _ h => ⟨mg_n (by omega) h.1, h.2⟩, m58.imp fun _ h => ⟨mg_n (by omega) h.1, h.2⟩, m59.imp fun _ h => ⟨mg_n (by omega) h.1, h.2⟩⟩

theorem MV_51 {np ns day nr tr fl : Int} {rg kd nm sg pt : Int → Int} {ca : Int → Int → Int} {rs rp rl th la ln : Int → Int} {ce : Int → Int → Int} {μ : Int → ME} {g pf : Int → Int} {ca' : Int → Int → Int} (h : MV np ns day nr tr fl rg kd nm sg pt ca rs rp rl th la ln ce μ) (hp : μ 50 = mA 5 pf) (hg : MR ns (pt, ca', 0, 0, -9) pf g) : MV np ns day nr tr fl rg kd nm sg pt (ca') rs rp rl th la ln ce (mup μ (51) (mA 20 g)) := by
  obtain ⟨m42, m43, m44, m45, ⟨m46, m47, m48, m49⟩, mD, ⟨m52, m53, m54, m55, m56⟩, m57, m58, m59⟩ := h
  exact ⟨m42.imp fun _ h => h.imp fun _ h => h.imp fun _ h => h.imp fun _ h => h.imp fun _ h => h.imp fun _ h => h.imp fun _ h => h.imp fun _ h => mg_n (by omega) h, m43.imp fun _ h => ⟨mg_n (by omega) h.1, h.2⟩, m44.imp fun _ h => ⟨mg_n (by omega) h.1, h.2⟩, m45.imp fun _ h => ⟨mg_n (by omega) h.1, h.2⟩, ⟨m46.imp fun _ h => ⟨mg_n (by omega) h.1, h.2⟩, m47.imp fun _ h => ⟨mg_n (by omega) h.1, h.2⟩, m48.imp fun _ h => ⟨mg_n (by omega) h.1, h.2⟩, m49.imp fun _ h => ⟨mg_n (by omega) h.1, h.2⟩⟩, ⟨pf, g, mg_n (by omega) hp, mup_s _ _ _, hg⟩, ⟨m52.imp fun _ h => mg_n (by omega) h, m53.imp fun _ h => mg_n (by omega) h, m54.imp fun _ h => mg_n (by omega) h, m55.imp fun _ h => mg_n (by omega) h, m56.imp fun _ h => mg_n (by omega) h⟩, m57.imp fun _ h => ⟨mg_n (by omega) h.1, h.2⟩, m58.imp fun _ h => ⟨mg_n (by omega) h.1, h.2⟩, m59.imp fun _ h => ⟨mg_n (by omega) h.1, h.2⟩⟩

theorem MV_50 {np ns day nr tr fl : Int} {rg kd nm sg pt : Int → Int} {ca : Int → Int → Int} {rs rp rl th la ln : Int → Int} {ce : Int → Int → Int} {μ : Int → ME} {g cf pt' : Int → Int} {ca' : Int → Int → Int} (h : MV np ns day nr tr fl rg kd nm sg pt ca rs rp rl th la ln ce μ) (hc : μ 51 = mA 20 cf) (hg : MR ns (pt', ca', 0, 0, -9) g cf) : MV np ns day nr tr fl rg kd nm sg (pt') (ca') rs rp rl th la ln ce (mup μ (50) (mA 5 g)) := by
  obtain ⟨m42, m43, m44, m45, ⟨m46, m47, m48, m49⟩, mD, ⟨m52, m53, m54, m55, m56⟩, m57, m58, m59⟩ := h
  exact ⟨m42.imp fun _ h => h.imp fun _ h => h.imp fun _ h => h.imp fun _ h => h.imp fun _ h => h.imp fun _ h => h.imp fun _ h => h.imp fun _ h => mg_n (by omega) h, m43.imp fun _ h => ⟨mg_n (by omega) h.1, h.2⟩, m44.imp fun _ h => ⟨mg_n (by omega) h.1, h.2⟩, m45.imp fun _ h => ⟨mg_n (by omega) h.1, h.2⟩, ⟨m46.imp fun _ h => ⟨mg_n (by omega) h.1, h.2⟩, m47.imp fun _ h => ⟨mg_n (by omega) h.1, h.2⟩, m48.imp fun _ h => ⟨mg_n (by omega) h.1, h.2⟩, m49.imp fun _ h => ⟨mg_n (by omega) h.1, h.2⟩⟩, ⟨g, cf, mup_s _ _ _, mg_n (by omega) hc, hg⟩, ⟨m52.imp fun _ h => mg_n (by omega) h, m53.imp fun _ h => mg_n (by omega) h, m54.imp fun _ h => mg_n (by omega) h, m55.imp fun _ h => mg_n (by omega) h, m56.imp fun _ h => mg_n (by omega) h⟩, m57.imp fun _ h => ⟨mg_n (by omega) h.1, h.2⟩, m58.imp fun _ h => ⟨mg_n (by omega) h.1, h.2⟩, m59.imp fun _ h => ⟨mg_n (by omega) h.1, h.2⟩⟩

theorem MV_54 {np ns day nr tr fl : Int} {rg kd nm sg pt : Int → Int} {ca : Int → Int → Int} {rs rp rl th la ln : Int → Int} {ce : Int → Int → Int} {μ : Int → ME} {g : Int → Int} (h : MV np ns day nr tr fl rg kd nm sg pt ca rs rp rl th la ln ce μ) : MV np ns day nr tr fl rg kd nm sg pt ca rs rp rl th la ln ce (mup μ (54) (mA 5 g)) := by
  obtain ⟨m42, m43, m44, m45, ⟨m46, m47, m48, m49⟩, mD, ⟨m52, m53, m54, m55, m56⟩, m57, m58, m59⟩ := h
  exact ⟨m42.imp fun _ h => h.imp fun _ h => h.imp fun _ h => h.imp fun _ h => h.imp fun _ h => h.imp fun _ h => h.imp fun _ h => h.imp fun _ h => mg_n (by omega) h, m43.imp fun _ h => ⟨mg_n (by omega) h.1, h.2⟩, m44.imp fun _ h => ⟨mg_n (by omega) h.1, h.2⟩, m45.imp fun _ h => ⟨mg_n (by omega) h.1, h.2⟩, ⟨m46.imp fun _ h => ⟨mg_n (by omega) h.1, h.2⟩, m47.imp fun _ h => ⟨mg_n (by omega) h.1, h.2⟩, m48.imp fun _ h => ⟨mg_n (by omega) h.1, h.2⟩, m49.imp fun _ h => ⟨mg_n (by omega) h.1, h.2⟩⟩, mD.imp fun _ h => h.imp fun _ h => ⟨mg_n (by omega) h.1, mg_n (by omega) h.2.1, h.2.2⟩, ⟨m52.imp fun _ h => mg_n (by omega) h, m53.imp fun _ h => mg_n (by omega) h, ⟨g, mup_s _ _ _⟩, m55.imp fun _ h => mg_n (by omega) h, m56.imp fun _ h => mg_n (by omega) h⟩, m57.imp fun _ h => ⟨mg_n (by omega) h.1, h.2⟩, m58.imp fun _ h => ⟨mg_n (by omega) h.1, h.2⟩, m59.imp fun _ h => ⟨mg_n (by omega) h.1, h.2⟩⟩

theorem MV_55 {np ns day nr tr fl : Int} {rg kd nm sg pt : Int → Int} {ca : Int → Int → Int} {rs rp rl th la ln : Int → Int} {ce : Int → Int → Int} {μ : Int → ME} {g : Int → Int} (h : MV np ns day nr tr fl rg kd nm sg pt ca rs rp rl th la ln ce μ) : MV np ns day nr tr fl rg kd nm sg pt ca rs rp rl th la ln ce (mup μ (55) (mA 20 g)) := by
  obtain ⟨m42, m43, m44, m45, ⟨m46, m47, m48, m49⟩, mD, ⟨m52, m53, m54, m55, m56⟩, m57, m58, m59⟩ := h
  exact ⟨m42.imp fun _ h => h.imp fun _ h => h.imp fun _ h => h.imp fun _ h => h.imp fun _ h => h.imp fun _ h => h.imp fun _ h => h.imp fun _ h => mg_n (by omega) h, m43.imp fun _ h => ⟨mg_n (by omega) h.1, h.2⟩, m44.imp fun _ h => ⟨mg_n (by omega) h.1, h.2⟩, m45.imp fun _ h => ⟨mg_n (by omega) h.1, h.2⟩, ⟨m46.imp fun _ h => ⟨mg_n (by omega) h.1, h.2⟩, m47.imp fun _ h => ⟨mg_n (by omega) h.1, h.2⟩, m48.imp fun _ h => ⟨mg_n (by omega) h.1, h.2⟩, m49.imp fun _ h => ⟨mg_n (by omega) h.1, h.2⟩⟩, mD.imp fun _ h => h.imp fun _ h => ⟨mg_n (by omega) h.1, mg_n (by omega) h.2.1, h.2.2⟩, ⟨m52.imp fun _ h => mg_n (by omega) h, m53.imp fun _ h => mg_n (by omega) h, m54.imp fun _ h => mg_n (by omega) h, ⟨g, mup_s _ _ _⟩, m56.imp fun _ h => mg_n (by omega) h⟩, m57.imp fun _ h => ⟨mg_n (by omega) h.1, h.2⟩, m58.imp fun _ h => ⟨mg_n (by omega) h.1, h.2⟩, m59.imp fun _ h => ⟨mg_n (by omega) h.1, h.2⟩⟩

theorem MV_56 {np ns day nr tr fl : Int} {rg kd nm sg pt : Int → Int} {ca : Int → Int → Int} {rs rp rl th la ln : Int → Int} {ce : Int → Int → Int} {μ : Int → ME} {g : Int → Int} (h : MV np ns day nr tr fl rg kd nm sg pt ca rs rp rl th la ln ce μ) : MV np ns day nr tr fl rg kd nm sg pt ca rs rp rl th la ln ce (mup μ (56) (mA 4 g)) := by
  obtain ⟨m42, m43, m44, m45, ⟨m46, m47, m48, m49⟩, mD, ⟨m52, m53, m54, m55, m56⟩, m57, m58, m59⟩ := h
  exact ⟨m42.imp fun _ h => h.imp fun _ h => h.imp fun _ h => h.imp fun _ h => h.imp fun _ h => h.imp fun _ h => h.imp fun _ h => h.imp fun _ h => mg_n (by omega) h, m43.imp fun _ h => ⟨mg_n (by omega) h.1, h.2⟩, m44.imp fun _ h => ⟨mg_n (by omega) h.1, h.2⟩, m45.imp fun _ h => ⟨mg_n (by omega) h.1, h.2⟩, ⟨m46.imp fun _ h => ⟨mg_n (by omega) h.1, h.2⟩, m47.imp fun _ h => ⟨mg_n (by omega) h.1, h.2⟩, m48.imp fun _ h => ⟨mg_n (by omega) h.1, h.2⟩, m49.imp fun _ h => ⟨mg_n (by omega) h.1, h.2⟩⟩, mD.imp fun _ h => h.imp fun _ h => ⟨mg_n (by omega) h.1, mg_n (by omega) h.2.1, h.2.2⟩, ⟨m52.imp fun _ h => mg_n (by omega) h, m53.imp fun _ h => mg_n (by omega) h, m54.imp fun _ h => mg_n (by omega) h, m55.imp fun _ h => mg_n (by omega) h, ⟨g, mup_s _ _ _⟩⟩, m57.imp fun _ h => ⟨mg_n (by omega) h.1, h.2⟩, m58.imp fun _ h => ⟨mg_n (by omega) h.1, h.2⟩, m59.imp fun _ h => ⟨mg_n (by omega) h.1, h.2⟩⟩

theorem MV_52 {np ns day nr tr fl : Int} {rg kd nm sg pt : Int → Int} {ca : Int → Int → Int} {rs rp rl th la ln : Int → Int} {ce : Int → Int → Int} {μ : Int → ME} {g : Int → Int} (h : MV np ns day nr tr fl rg kd nm sg pt ca rs rp rl th la ln ce μ) : MV np ns day nr tr fl rg kd nm sg pt ca rs rp rl th la ln ce (mup μ (52) (mA 6 g)) := by
  obtain ⟨m42, m43, m44, m45, ⟨m46, m47, m48, m49⟩, mD, ⟨m52, m53, m54, m55, m56⟩, m57, m58, m59⟩ := h
  exact ⟨m42.imp fun _ h => h.imp fun _ h => h.imp fun _ h => h.imp fun _ h => h.imp fun _ h => h.imp fun _ h => h.imp fun _ h => h.imp fun _ h => mg_n (by omega) h, m43.imp fun _ h => ⟨mg_n (by omega) h.1, h.2⟩, m44.imp fun _ h => ⟨mg_n (by omega) h.1, h.2⟩, m45.imp fun _ h => ⟨mg_n (by omega) h.1, h.2⟩, ⟨m46.imp fun _ h => ⟨mg_n (by omega) h.1, h.2⟩, m47.imp fun _ h => ⟨mg_n (by omega) h.1, h.2⟩, m48.imp fun _ h => ⟨mg_n (by omega) h.1, h.2⟩, m49.imp fun _ h => ⟨mg_n (by omega) h.1, h.2⟩⟩, mD.imp fun _ h => h.imp fun _ h => ⟨mg_n (by omega) h.1, mg_n (by omega) h.2.1, h.2.2⟩, ⟨⟨g, mup_s _ _ _⟩, m53.imp fun _ h => mg_n (by omega) h, m54.imp fun _ h => mg_n (by omega) h, m55.imp fun _ h => mg_n (by omega) h, m56.imp fun _ h => mg_n (by omega) h⟩, m57.imp fun _ h => ⟨mg_n (by omega) h.1, h.2⟩, m58.imp fun _ h => ⟨mg_n (by omega) h.1, h.2⟩, m59.imp fun _ h => ⟨mg_n (by omega) h.1, h.2⟩⟩

theorem MV_53 {np ns day nr tr fl : Int} {rg kd nm sg pt : Int → Int} {ca : Int → Int → Int} {rs rp rl th la ln : Int → Int} {ce : Int → Int → Int} {μ : Int → ME} {g : Int → Int} (h : MV np ns day nr tr fl rg kd nm sg pt ca rs rp rl th la ln ce μ) : MV np ns day nr tr fl rg kd nm sg pt ca rs rp rl th la ln ce (mup μ (53) (mA 40 g)) := by
  obtain ⟨m42, m43, m44, m45, ⟨m46, m47, m48, m49⟩, mD, ⟨m52, m53, m54, m55, m56⟩, m57, m58, m59⟩ := h
  exact ⟨m42.imp fun _ h => h.imp fun _ h => h.imp fun _ h => h.imp fun _ h => h.imp fun _ h => h.imp fun _ h => h.imp fun _ h => h.imp fun _ h => mg_n (by omega) h, m43.imp fun _ h => ⟨mg_n (by omega) h.1, h.2⟩, m44.imp fun _ h => ⟨mg_n (by omega) h.1, h.2⟩, m45.imp fun _ h => ⟨mg_n (by omega) h.1, h.2⟩, ⟨m46.imp fun _ h => ⟨mg_n (by omega) h.1, h.2⟩, m47.imp fun _ h => ⟨mg_n (by omega) h.1, h.2⟩, m48.imp fun _ h => ⟨mg_n (by omega) h.1, h.2⟩, m49.imp fun _ h => ⟨mg_n (by omega) h.1, h.2⟩⟩, mD.imp fun _ h => h.imp fun _ h => ⟨mg_n (by omega) h.1, mg_n (by omega) h.2.1, h.2.2⟩, ⟨m52.imp fun _ h => mg_n (by omega) h, ⟨g, mup_s _ _ _⟩, m54.imp fun _ h => mg_n (by omega) h, m55.imp fun _ h => mg_n (by omega) h, m56.imp fun _ h => mg_n (by omega) h⟩, m57.imp fun _ h => ⟨mg_n (by omega) h.1, h.2⟩, m58.imp fun _ h => ⟨mg_n (by omega) h.1, h.2⟩, m59.imp fun _ h => ⟨mg_n (by omega) h.1, h.2⟩⟩

theorem MV_57 {np ns day nr tr fl : Int} {rg kd nm sg pt : Int → Int} {ca : Int → Int → Int} {rs rp rl th la ln : Int → Int} {ce : Int → Int → Int} {μ : Int → ME} {g g' : Int → Int} (h : MV np ns day nr tr fl rg kd nm sg pt ca rs rp rl th la ln ce μ) (hg : ∀ i, 0 ≤ i → i < nr → g i = g' i) : MV np ns day nr tr fl rg kd nm sg pt ca (g') rp rl th la ln ce (mup μ (57) (mA 8 g)) := by
  obtain ⟨m42, m43, m44, m45, ⟨m46, m47, m48, m49⟩, mD, ⟨m52, m53, m54, m55, m56⟩, m57, m58, m59⟩ := h
  exact ⟨m42.imp fun _ h => h.imp fun _ h => h.imp fun _ h => h.imp fun _ h => h.imp fun _ h => h.imp fun _ h => h.imp fun _ h => h.imp fun _ h => mg_n (by omega) h, m43.imp fun _ h => ⟨mg_n (by omega) h.1, h.2⟩, m44.imp fun _ h => ⟨mg_n (by omega) h.1, h.2⟩, m45.imp fun _ h => ⟨mg_n (by omega) h.1, h.2⟩, ⟨m46.imp fun _ h => ⟨mg_n (by omega) h.1, h.2⟩, m47.imp fun _ h => ⟨mg_n (by omega) h.1, h.2⟩, m48.imp fun _ h => ⟨mg_n (by omega) h.1, h.2⟩, m49.imp fun _ h => ⟨mg_n (by omega) h.1, h.2⟩⟩, mD.imp fun _ h => h.imp fun _ h => ⟨mg_n (by omega) h.1, mg_n (by omega) h.2.1, h.2.2⟩, ⟨m52.imp fun _ h => mg_n (by omega) h, m53.imp fun _ h => mg_n (by omega) h, m54.imp fun _ h => mg_n (by omega) h, m55.imp fun _ h => mg_n (by omega) h, m56.imp fun _ h => mg_n (by omega) h⟩, ⟨g, mup_s _ _ _, hg⟩, m58.imp fun _ h => ⟨mg_n (by omega) h.1, h.2⟩, m59.imp fun _ h => ⟨mg_n (by omega) h.1, h.2⟩⟩

theorem MV_58 {np ns day nr tr fl : Int} {rg kd nm sg pt : Int → Int} {ca : Int → Int → Int} {rs rp rl th la ln : Int → Int} {ce : Int → Int → Int} {μ : Int → ME} {g g' : Int → Int} (h : MV np ns day nr tr fl rg kd nm sg pt ca rs rp rl th la ln ce μ) (hg : ∀ i, 0 ≤ i → i < nr → g i = g' i) : MV np ns day nr tr fl rg kd nm sg pt ca rs (g') rl th la ln ce (mup μ (58) (mA 8 g)) := by
  obtain ⟨m42, m43, m44, m45, ⟨m46, m47, m48, m49⟩, mD, ⟨m52, m53, m54, m55, m56⟩, m57, m58, m59⟩ := h
  exact ⟨m42.imp fun _ h => h.imp fun _ h => h.imp fun _ h => h.imp fun _ h => h.imp fun _ h => h.imp fun _ h => h.imp fun _ h => h.imp fun _ h => mg_n (by omega) h, m43.imp fun _ h => ⟨mg_n (by omega) h.1, h.2⟩, m44.imp fun _ h => ⟨mg_n (by omega) h.1, h.2⟩, m45.imp fun _ h => ⟨mg_n (by omega) h.1, h.2⟩, ⟨m46.imp fun _ h => ⟨mg_n (by omega) h.1, h.2⟩, m47.imp fun _ h => ⟨mg_n (by omega) h.1, h.2⟩, m48.imp fun _ h => ⟨mg_n (by omega) h.1, h.2⟩, m49.imp fun _ h => ⟨mg_n (by omega) h.1, h.2⟩⟩, mD.imp fun _ h => h.imp fun _ h => ⟨mg_n (by omega) h.1, mg_n (by omega) h.2.1, h.2.2⟩, ⟨m52.imp fun _ h => mg_n (by omega) h, m53.imp fun _ h => mg_n (by omega) h, m54.imp fun _ h => mg_n (by omega) h, m55.imp fun _ h => mg_n (by omega) h, m56.imp fun _ h => mg_n (by omega) h⟩, m57.imp fun _ h => ⟨mg_n (by omega) h.1, h.2⟩, ⟨g, mup_s _ _ _, hg⟩, m59.imp fun _ h => ⟨mg_n (by omega) h.1, h.2⟩⟩

theorem MV_59 {np ns day nr tr fl : Int} {rg kd nm sg pt : Int → Int} {ca : Int → Int → Int} {rs rp rl th la ln : Int → Int} {ce : Int → Int → Int} {μ : Int → ME} {g g' : Int → Int} (h : MV np ns day nr tr fl rg kd nm sg pt ca rs rp rl th la ln ce μ) (hg : ∀ i, 0 ≤ i → i < nr → g i = g' i) : MV np ns day nr tr fl rg kd nm sg pt ca rs rp (g') th la ln ce (mup μ (59) (mA 8 g)) := by
  obtain ⟨m42, m43, m44, m45, ⟨m46, m47, m48, m49⟩, mD, ⟨m52, m53, m54, m55, m56⟩, m57, m58, m59⟩ := h
  exact ⟨m42.imp fun _ h => h.imp fun _ h => h.imp fun _ h => h.imp fun _ h => h.imp fun _ h => h.imp fun _ h => h.imp fun _ h => h.imp fun _ h => mg_n (by omega) h, m43.imp fun _ h => ⟨mg_n (by omega) h.1, h.2⟩, m44.imp fun _ h => ⟨mg_n (by omega) h.1, h.2⟩, m45.imp fun _ h => ⟨mg_n (by omega) h.1, h.2⟩, ⟨m46.imp fun _ h => ⟨mg_n (by omega) h.1, h.2⟩, m47.imp fun _ h => ⟨mg_n (by omega) h.1, h.2⟩, m48.imp fun _ h => ⟨mg_n (by omega) h.1, h.2⟩, m49.imp fun _ h => ⟨mg_n (by omega) h.1, h.2⟩⟩, mD.imp fun _ h => h.imp fun _ h => ⟨mg_n (by omega) h.1, mg_n (by omega) h.2.1, h.2.2⟩, ⟨m52.imp fun _ h => mg_n (by omega) h, m53.imp fun _ h => mg_n (by omega) h, m54.imp fun _ h => mg_n (by omega) h, m55.imp fun _ h => mg_n (by omega) h, m56.imp fun _ h => mg_n (by omega) h⟩, m57.imp fun _ h => ⟨mg_n (by omega) h.1, h.2⟩, m58.imp fun _ h => ⟨mg_n (by omega) h.1, h.2⟩, ⟨g, mup_s _ _ _, hg⟩⟩

theorem MV_45 {np ns day nr tr fl : Int} {rg kd nm sg pt : Int → Int} {ca : Int → Int → Int} {rs rp rl th la ln : Int → Int} {ce : Int → Int → Int} {μ : Int → ME} {g : Int → Int} {ce' : Int → Int → Int} (h : MV np ns day nr tr fl rg kd nm sg pt ca rs rp rl th la ln ce μ) (hg : ∀ k, 0 ≤ k → k < 4 → th k ≠ 0 → ∀ j, 0 ≤ j → j < ln k → g (60 * k + j) = ce' k j) : MV np ns day nr tr fl rg kd nm sg pt ca rs rp rl th la ln (ce') (mup μ (45) (mA 240 g)) := by
  obtain ⟨m42, m43, m44, m45, ⟨m46, m47, m48, m49⟩, mD, ⟨m52, m53, m54, m55, m56⟩, m57, m58, m59⟩ := h
  exact ⟨m42.imp fun _ h => h.imp fun _ h => h.imp fun _ h => h.imp fun _ h => h.imp fun _ h => h.imp fun _ h => h.imp fun _ h => h.imp fun _ h => mg_n (by omega) h, m43.imp fun _ h => ⟨mg_n (by omega) h.1, h.2⟩, m44.imp fun _ h => ⟨mg_n (by omega) h.1, h.2⟩, ⟨g, mup_s _ _ _, hg⟩, ⟨m46.imp fun _ h => ⟨mg_n (by omega) h.1, h.2⟩, m47.imp fun _ h => ⟨mg_n (by omega) h.1, h.2⟩, m48.imp fun _ h => ⟨mg_n (by omega) h.1, h.2⟩, m49.imp fun _ h => ⟨mg_n (by omega) h.1, h.2⟩⟩, mD.imp fun _ h => h.imp fun _ h => ⟨mg_n (by omega) h.1, mg_n (by omega) h.2.1, h.2.2⟩, ⟨m52.imp fun _ h => mg_n (by omega) h, m53.imp fun _ h => mg_n (by omega) h, m54.imp fun _ h => mg_n (by omega) h, m55.imp fun _ h => mg_n (by omega) h, m56.imp fun _ h => mg_n (by omega) h⟩, m57.imp fun _ h => ⟨mg_n (by omega) h.1, h.2⟩, m58.imp fun _ h => ⟨mg_n (by omega) h.1, h.2⟩, m59.imp fun _ h => ⟨mg_n (by omega) h.1, h.2⟩⟩

theorem fup_e {f g : Int → Int} {k v n : Int} (h : ∀ p, 0 ≤ p → p < n → f p = g p) : ∀ p, 0 ≤ p → p < n → fup f k v p = fup g k v p := fun p p0 p1 => by
  unfold fup; split
  · rfl
  · exact h p p0 p1
theorem MR_x {ns : Int} {pt : Int → Int} {ca : Int → Int → Int} {a b c : Int} {S : DS} {pf cf : Int → Int} (h : MR ns S pf cf) (h1 : S.1 = pt) (h2 : S.2.1 = ca) : MR ns (pt, ca, a, b, c) pf cf := fun k k0 k1 => by
  have := h k k0 k1
  rw [h1, h2] at this
  exact this

set_option maxHeartbeats 4000000 in
set_option maxRecDepth 100000 in
theorem q_X5_ofShip {K : KX} {d : Nat} {μ : Int → ME} {k w : Int} {np ns day nr tr fl : Int} {rg kd nm sg pt : Int → Int} {ca : Int → Int → Int} {rs rp rl th la ln : Int → Int} {ce : Int → Int → Int} (hV : MV np ns day nr tr fl rg kd nm sg pt ca rs rp rl th la ln ce μ) (hW : WF np ns day nr tr fl rg kd nm sg pt ca rs rp rl th la ln ce) : Ct K (d + 2) yX5_ofShip cX5_ofShip 3 (some .int) [vR 42, vI k, vI w] μ (fun r μ' => (∀ a, a < 42 → μ' a = μ a) ∧ (if ¬ (0 ≤ k ∧ k < ns) then r = some (vI (-1)) ∧ MV np ns day nr tr fl rg kd nm sg pt ca rs rp rl th la ln ce μ' else r = some (vI (ofS (kd k) (nm k) (sg k) (pt k) (ca k) w)) ∧ MV np ns day nr tr fl rg kd nm sg pt ca rs rp rl th la ln ce μ')) := by
  refine Ct.of (by decide) (Nat.le_of_ble_eq_true rfl) (fun X C => ?_)
  obtain ⟨m42, m43, m44, m45, mB, mD, ⟨m52, m53, m54, m55, m56⟩, m57, m58, m59⟩ := id hV
  obtain ⟨m46, m47, m48, m49⟩ := id mB
  obtain ⟨at_, rP, rS, lp, lw, lf, sL, sF, h0⟩ := id m42
  obtain ⟨f43, h43, e43⟩ := id m43
  obtain ⟨f44, h44, e44⟩ := id m44
  obtain ⟨f45, h45, e45⟩ := id m45
  obtain ⟨f46, h46, e46⟩ := id m46
  obtain ⟨f47, h47, e47⟩ := id m47
  obtain ⟨f48, h48, e48⟩ := id m48
  obtain ⟨f49, h49, e49⟩ := id m49
  obtain ⟨pf, cf, h50, h51, hMR⟩ := id mD
  obtain ⟨f57, h57, e57⟩ := id m57
  obtain ⟨f58, h58, e58⟩ := id m58
  obtain ⟨f59, h59, e59⟩ := id m59
  obtain ⟨w0, w1, w2, w3, w4, w5, w6⟩ := id hW
  refine p_aload_n (pc := 0) C dX5_ofShip_0 rfl ?_
  refine p_iload_n (pc := 1) C dX5_ofShip_1 rfl ?_
  refine p_callVF (pc := 2) C ln_X5_127 dX5_ofShip_2 (k_X5_isShip (by (repeat refine mg_n (by omega) ?_); first | assumption | exact mup_s _ _ _)) ⟨by omega, by omega⟩ (by (repeat refine mg_n (by omega) ?_); first | assumption | exact mup_s _ _ _) rfl rfl rfl rfl (Nat.le_of_ble_eq_true rfl) ?_
  refine p_ifne_b (pc := 5) (tgt := 10) C dX5_ofShip_5 (by decide) (fun c_5 => ?_) (fun c_5 => ?_)
  · obtain ⟨n1, n2, n3⟩ := w3 k (by omega) (by omega)
    obtain ⟨x1, x2⟩ := w4 k (by omega) (by omega)
    obtain ⟨r1, r2⟩ := hMR k (by omega) (by omega)
    dsimp only at r1 r2
    have q7 := e47 k (by omega) (by omega)
    have q8 := e48 k (by omega) (by omega)
    have q9 := e49 k (by omega) (by omega)
    have hsl : ∀ g, 0 ≤ g → g < 4 → (fun g => cf (4 * k + g)) g = ca k g := fun g g0 g1 => r2 g g0 g1
    have hbs : bd4 (fun g => cf (4 * k + g)) 100 := bd4_c hsl (x2.le (by omega))
    refine p_iload_n (pc := 10) C dX5_ofShip_10 rfl ?_
    by_cases s_11_0 : w = 0
    · refine p_tin (pc := 11) (off := 45) (tgt := 56) C dX5_ofShip_11 (by omega) (by omega) (by rw [s_11_0]; rfl) (by decide) ?_
      refine p_aload_n (pc := 56) C dX5_ofShip_56 rfl ?_
      refine p_get (pc := 57) C fl_X5_22 dX5_ofShip_57 ⟨by omega, by omega⟩ (by (repeat refine mg_n (by omega) ?_); first | assumption | exact mup_s _ _ _) (by rfl) ?_
      refine p_iload_n (pc := 60) C dX5_ofShip_60 rfl ?_
      refine p_iald (pc := 61) C dX5_ofShip_61 ⟨by omega, by omega⟩ (by (repeat refine mg_n (by omega) ?_); first | assumption | exact mup_s _ _ _) (by omega) ?_
      refine p_iret (pc := 62) C dX5_ofShip_62 ?_
      first
        | (refine ⟨fun q hq => by (repeat (refine mg_n (by omega) ?_)); rfl, ?_⟩; rw [if_pos (by omega)]; exact ⟨rfl, hV⟩)
        | (refine ⟨fun q hq => by (repeat (refine mg_n (by omega) ?_)); rfl, ?_⟩; rw [if_neg (by omega)]; exact ⟨(sv (by unfold ofS; first | (rw [if_pos (by omega)]; exact q7) | (rw [if_neg (by omega), if_pos (by omega)]; exact q8) | (rw [if_neg (by omega), if_neg (by omega), if_pos (by omega)]; exact q9) | (rw [if_neg (by omega), if_neg (by omega), if_neg (by omega), if_pos (by omega)]; skip) | (rw [if_neg (by omega), if_neg (by omega), if_neg (by omega), if_neg (by omega), if_pos (by omega)]; exact r1) | (rw [if_neg (by omega), if_neg (by omega), if_neg (by omega), if_neg (by omega), if_neg (by omega), if_neg (by omega), if_pos (by omega)]; exact wor_c hsl) | (rw [if_neg (by omega), if_neg (by omega), if_neg (by omega), if_neg (by omega), if_neg (by omega), if_neg (by omega), if_neg (by omega), if_pos (by omega)]; exact pcs_c hsl) | (rw [if_neg (by omega), if_neg (by omega), if_neg (by omega), if_neg (by omega), if_neg (by omega), if_neg (by omega), if_neg (by omega), if_neg (by omega), if_pos (by omega)]; exact (show cf (4 * k + w - 10) = _ by rw [show 4 * k + w - 10 = 4 * k + (w - 10) by omega]; exact r2 (w - 10) (by omega) (by omega))) | (rw [if_neg (by omega), if_neg (by omega), if_neg (by omega), if_neg (by omega), if_neg (by omega), if_pos (by omega)]; have q5 := r2 (nm k) n2.1 n2.2; first | rw [if_pos (by omega)] | rw [if_neg (by omega)]) | rw [if_neg (by omega), if_neg (by omega), if_neg (by omega), if_neg (by omega), if_neg (by omega), if_neg (by omega), if_neg (by omega), if_neg (by omega), if_neg (by omega)])), hV⟩)
    by_cases s_11_1 : w = 1
    · refine p_tin (pc := 11) (off := 52) (tgt := 63) C dX5_ofShip_11 (by omega) (by omega) (by rw [s_11_1]; rfl) (by decide) ?_
      refine p_aload_n (pc := 63) C dX5_ofShip_63 rfl ?_
      refine p_get (pc := 64) C fl_X5_25 dX5_ofShip_64 ⟨by omega, by omega⟩ (by (repeat refine mg_n (by omega) ?_); first | assumption | exact mup_s _ _ _) (by rfl) ?_
      refine p_iload_n (pc := 67) C dX5_ofShip_67 rfl ?_
      refine p_iald (pc := 68) C dX5_ofShip_68 ⟨by omega, by omega⟩ (by (repeat refine mg_n (by omega) ?_); first | assumption | exact mup_s _ _ _) (by omega) ?_
      refine p_iret (pc := 69) C dX5_ofShip_69 ?_
      first
        | (refine ⟨fun q hq => by (repeat (refine mg_n (by omega) ?_)); rfl, ?_⟩; rw [if_pos (by omega)]; exact ⟨rfl, hV⟩)
        | (refine ⟨fun q hq => by (repeat (refine mg_n (by omega) ?_)); rfl, ?_⟩; rw [if_neg (by omega)]; exact ⟨(sv (by unfold ofS; first | (rw [if_pos (by omega)]; exact q7) | (rw [if_neg (by omega), if_pos (by omega)]; exact q8) | (rw [if_neg (by omega), if_neg (by omega), if_pos (by omega)]; exact q9) | (rw [if_neg (by omega), if_neg (by omega), if_neg (by omega), if_pos (by omega)]; skip) | (rw [if_neg (by omega), if_neg (by omega), if_neg (by omega), if_neg (by omega), if_pos (by omega)]; exact r1) | (rw [if_neg (by omega), if_neg (by omega), if_neg (by omega), if_neg (by omega), if_neg (by omega), if_neg (by omega), if_pos (by omega)]; exact wor_c hsl) | (rw [if_neg (by omega), if_neg (by omega), if_neg (by omega), if_neg (by omega), if_neg (by omega), if_neg (by omega), if_neg (by omega), if_pos (by omega)]; exact pcs_c hsl) | (rw [if_neg (by omega), if_neg (by omega), if_neg (by omega), if_neg (by omega), if_neg (by omega), if_neg (by omega), if_neg (by omega), if_neg (by omega), if_pos (by omega)]; exact (show cf (4 * k + w - 10) = _ by rw [show 4 * k + w - 10 = 4 * k + (w - 10) by omega]; exact r2 (w - 10) (by omega) (by omega))) | (rw [if_neg (by omega), if_neg (by omega), if_neg (by omega), if_neg (by omega), if_neg (by omega), if_pos (by omega)]; have q5 := r2 (nm k) n2.1 n2.2; first | rw [if_pos (by omega)] | rw [if_neg (by omega)]) | rw [if_neg (by omega), if_neg (by omega), if_neg (by omega), if_neg (by omega), if_neg (by omega), if_neg (by omega), if_neg (by omega), if_neg (by omega), if_neg (by omega)])), hV⟩)
    by_cases s_11_2 : w = 2
    · refine p_tin (pc := 11) (off := 59) (tgt := 70) C dX5_ofShip_11 (by omega) (by omega) (by rw [s_11_2]; rfl) (by decide) ?_
      refine p_aload_n (pc := 70) C dX5_ofShip_70 rfl ?_
      refine p_get (pc := 71) C fl_X5_28 dX5_ofShip_71 ⟨by omega, by omega⟩ (by (repeat refine mg_n (by omega) ?_); first | assumption | exact mup_s _ _ _) (by rfl) ?_
      refine p_iload_n (pc := 74) C dX5_ofShip_74 rfl ?_
      refine p_iald (pc := 75) C dX5_ofShip_75 ⟨by omega, by omega⟩ (by (repeat refine mg_n (by omega) ?_); first | assumption | exact mup_s _ _ _) (by omega) ?_
      refine p_iret (pc := 76) C dX5_ofShip_76 ?_
      first
        | (refine ⟨fun q hq => by (repeat (refine mg_n (by omega) ?_)); rfl, ?_⟩; rw [if_pos (by omega)]; exact ⟨rfl, hV⟩)
        | (refine ⟨fun q hq => by (repeat (refine mg_n (by omega) ?_)); rfl, ?_⟩; rw [if_neg (by omega)]; exact ⟨(sv (by unfold ofS; first | (rw [if_pos (by omega)]; exact q7) | (rw [if_neg (by omega), if_pos (by omega)]; exact q8) | (rw [if_neg (by omega), if_neg (by omega), if_pos (by omega)]; exact q9) | (rw [if_neg (by omega), if_neg (by omega), if_neg (by omega), if_pos (by omega)]; skip) | (rw [if_neg (by omega), if_neg (by omega), if_neg (by omega), if_neg (by omega), if_pos (by omega)]; exact r1) | (rw [if_neg (by omega), if_neg (by omega), if_neg (by omega), if_neg (by omega), if_neg (by omega), if_neg (by omega), if_pos (by omega)]; exact wor_c hsl) | (rw [if_neg (by omega), if_neg (by omega), if_neg (by omega), if_neg (by omega), if_neg (by omega), if_neg (by omega), if_neg (by omega), if_pos (by omega)]; exact pcs_c hsl) | (rw [if_neg (by omega), if_neg (by omega), if_neg (by omega), if_neg (by omega), if_neg (by omega), if_neg (by omega), if_neg (by omega), if_neg (by omega), if_pos (by omega)]; exact (show cf (4 * k + w - 10) = _ by rw [show 4 * k + w - 10 = 4 * k + (w - 10) by omega]; exact r2 (w - 10) (by omega) (by omega))) | (rw [if_neg (by omega), if_neg (by omega), if_neg (by omega), if_neg (by omega), if_neg (by omega), if_pos (by omega)]; have q5 := r2 (nm k) n2.1 n2.2; first | rw [if_pos (by omega)] | rw [if_neg (by omega)]) | rw [if_neg (by omega), if_neg (by omega), if_neg (by omega), if_neg (by omega), if_neg (by omega), if_neg (by omega), if_neg (by omega), if_neg (by omega), if_neg (by omega)])), hV⟩)
    by_cases s_11_3 : w = 3
    · refine p_tin (pc := 11) (off := 66) (tgt := 77) C dX5_ofShip_11 (by omega) (by omega) (by rw [s_11_3]; rfl) (by decide) ?_
      refine p_aload_n (pc := 77) C dX5_ofShip_77 rfl ?_
      refine p_iload_n (pc := 78) C dX5_ofShip_78 rfl ?_
      refine p_callVF (pc := 79) C ln_X5_130 dX5_ofShip_79 (k_X5_bearsOf h0 (by omega) (by omega) mB (by omega) w3) ⟨by omega, by omega⟩ (by (repeat refine mg_n (by omega) ?_); first | assumption | exact mup_s _ _ _) rfl rfl rfl rfl (Nat.le_of_ble_eq_true rfl) ?_
      refine p_iret (pc := 82) C dX5_ofShip_82 ?_
      first
        | (refine ⟨fun q hq => by (repeat (refine mg_n (by omega) ?_)); rfl, ?_⟩; rw [if_pos (by omega)]; exact ⟨rfl, hV⟩)
        | (refine ⟨fun q hq => by (repeat (refine mg_n (by omega) ?_)); rfl, ?_⟩; rw [if_neg (by omega)]; exact ⟨(sv (by unfold ofS; first | (rw [if_pos (by omega)]; exact q7) | (rw [if_neg (by omega), if_pos (by omega)]; exact q8) | (rw [if_neg (by omega), if_neg (by omega), if_pos (by omega)]; exact q9) | (rw [if_neg (by omega), if_neg (by omega), if_neg (by omega), if_pos (by omega)]; skip) | (rw [if_neg (by omega), if_neg (by omega), if_neg (by omega), if_neg (by omega), if_pos (by omega)]; exact r1) | (rw [if_neg (by omega), if_neg (by omega), if_neg (by omega), if_neg (by omega), if_neg (by omega), if_neg (by omega), if_pos (by omega)]; exact wor_c hsl) | (rw [if_neg (by omega), if_neg (by omega), if_neg (by omega), if_neg (by omega), if_neg (by omega), if_neg (by omega), if_neg (by omega), if_pos (by omega)]; exact pcs_c hsl) | (rw [if_neg (by omega), if_neg (by omega), if_neg (by omega), if_neg (by omega), if_neg (by omega), if_neg (by omega), if_neg (by omega), if_neg (by omega), if_pos (by omega)]; exact (show cf (4 * k + w - 10) = _ by rw [show 4 * k + w - 10 = 4 * k + (w - 10) by omega]; exact r2 (w - 10) (by omega) (by omega))) | (rw [if_neg (by omega), if_neg (by omega), if_neg (by omega), if_neg (by omega), if_neg (by omega), if_pos (by omega)]; have q5 := r2 (nm k) n2.1 n2.2; first | rw [if_pos (by omega)] | rw [if_neg (by omega)]) | rw [if_neg (by omega), if_neg (by omega), if_neg (by omega), if_neg (by omega), if_neg (by omega), if_neg (by omega), if_neg (by omega), if_neg (by omega), if_neg (by omega)])), hV⟩)
    by_cases s_11_4 : w = 4
    · refine p_tin (pc := 11) (off := 72) (tgt := 83) C dX5_ofShip_11 (by omega) (by omega) (by rw [s_11_4]; rfl) (by decide) ?_
      refine p_aload_n (pc := 83) C dX5_ofShip_83 rfl ?_
      refine p_get (pc := 84) C fl_X5_31 dX5_ofShip_84 ⟨by omega, by omega⟩ (by (repeat refine mg_n (by omega) ?_); first | assumption | exact mup_s _ _ _) (by rfl) ?_
      refine p_iload_n (pc := 87) C dX5_ofShip_87 rfl ?_
      refine p_iald (pc := 88) C dX5_ofShip_88 ⟨by omega, by omega⟩ (by (repeat refine mg_n (by omega) ?_); first | assumption | exact mup_s _ _ _) (by omega) ?_
      refine p_iret (pc := 89) C dX5_ofShip_89 ?_
      first
        | (refine ⟨fun q hq => by (repeat (refine mg_n (by omega) ?_)); rfl, ?_⟩; rw [if_pos (by omega)]; exact ⟨rfl, hV⟩)
        | (refine ⟨fun q hq => by (repeat (refine mg_n (by omega) ?_)); rfl, ?_⟩; rw [if_neg (by omega)]; exact ⟨(sv (by unfold ofS; first | (rw [if_pos (by omega)]; exact q7) | (rw [if_neg (by omega), if_pos (by omega)]; exact q8) | (rw [if_neg (by omega), if_neg (by omega), if_pos (by omega)]; exact q9) | (rw [if_neg (by omega), if_neg (by omega), if_neg (by omega), if_pos (by omega)]; skip) | (rw [if_neg (by omega), if_neg (by omega), if_neg (by omega), if_neg (by omega), if_pos (by omega)]; exact r1) | (rw [if_neg (by omega), if_neg (by omega), if_neg (by omega), if_neg (by omega), if_neg (by omega), if_neg (by omega), if_pos (by omega)]; exact wor_c hsl) | (rw [if_neg (by omega), if_neg (by omega), if_neg (by omega), if_neg (by omega), if_neg (by omega), if_neg (by omega), if_neg (by omega), if_pos (by omega)]; exact pcs_c hsl) | (rw [if_neg (by omega), if_neg (by omega), if_neg (by omega), if_neg (by omega), if_neg (by omega), if_neg (by omega), if_neg (by omega), if_neg (by omega), if_pos (by omega)]; exact (show cf (4 * k + w - 10) = _ by rw [show 4 * k + w - 10 = 4 * k + (w - 10) by omega]; exact r2 (w - 10) (by omega) (by omega))) | (rw [if_neg (by omega), if_neg (by omega), if_neg (by omega), if_neg (by omega), if_neg (by omega), if_pos (by omega)]; have q5 := r2 (nm k) n2.1 n2.2; first | rw [if_pos (by omega)] | rw [if_neg (by omega)]) | rw [if_neg (by omega), if_neg (by omega), if_neg (by omega), if_neg (by omega), if_neg (by omega), if_neg (by omega), if_neg (by omega), if_neg (by omega), if_neg (by omega)])), hV⟩)
    by_cases s_11_5 : w = 5
    · refine p_tin (pc := 11) (off := 79) (tgt := 90) C dX5_ofShip_11 (by omega) (by omega) (by rw [s_11_5]; rfl) (by decide) ?_
      refine p_aload_n (pc := 90) C dX5_ofShip_90 rfl ?_
      refine p_iload_n (pc := 91) C dX5_ofShip_91 rfl ?_
      refine p_callVF (pc := 92) C ln_X5_133 dX5_ofShip_92 (k_X5_isMet h0 (by omega) (by omega) mB (by omega) h51 w3) ⟨by omega, by omega⟩ (by (repeat refine mg_n (by omega) ?_); first | assumption | exact mup_s _ _ _) rfl rfl rfl rfl (Nat.le_of_ble_eq_true rfl) ?_
      refine p_ifeq_b (pc := 95) (tgt := 102) C dX5_ofShip_95 (by decide) (fun c_95 => ?_) (fun c_95 => ?_)
      · refine p_iconst (pc := 102) C dX5_ofShip_102 (by decide) ?_
        refine p_iret (pc := 103) C dX5_ofShip_103 ?_
        first
          | (refine ⟨fun q hq => by (repeat (refine mg_n (by omega) ?_)); rfl, ?_⟩; rw [if_pos (by omega)]; exact ⟨rfl, hV⟩)
          | (refine ⟨fun q hq => by (repeat (refine mg_n (by omega) ?_)); rfl, ?_⟩; rw [if_neg (by omega)]; exact ⟨(sv (by unfold ofS; first | (rw [if_pos (by omega)]; exact q7) | (rw [if_neg (by omega), if_pos (by omega)]; exact q8) | (rw [if_neg (by omega), if_neg (by omega), if_pos (by omega)]; exact q9) | (rw [if_neg (by omega), if_neg (by omega), if_neg (by omega), if_pos (by omega)]; skip) | (rw [if_neg (by omega), if_neg (by omega), if_neg (by omega), if_neg (by omega), if_pos (by omega)]; exact r1) | (rw [if_neg (by omega), if_neg (by omega), if_neg (by omega), if_neg (by omega), if_neg (by omega), if_neg (by omega), if_pos (by omega)]; exact wor_c hsl) | (rw [if_neg (by omega), if_neg (by omega), if_neg (by omega), if_neg (by omega), if_neg (by omega), if_neg (by omega), if_neg (by omega), if_pos (by omega)]; exact pcs_c hsl) | (rw [if_neg (by omega), if_neg (by omega), if_neg (by omega), if_neg (by omega), if_neg (by omega), if_neg (by omega), if_neg (by omega), if_neg (by omega), if_pos (by omega)]; exact (show cf (4 * k + w - 10) = _ by rw [show 4 * k + w - 10 = 4 * k + (w - 10) by omega]; exact r2 (w - 10) (by omega) (by omega))) | (rw [if_neg (by omega), if_neg (by omega), if_neg (by omega), if_neg (by omega), if_neg (by omega), if_pos (by omega)]; have q5 := r2 (nm k) n2.1 n2.2; first | rw [if_pos (by omega)] | rw [if_neg (by omega)]) | rw [if_neg (by omega), if_neg (by omega), if_neg (by omega), if_neg (by omega), if_neg (by omega), if_neg (by omega), if_neg (by omega), if_neg (by omega), if_neg (by omega)])), hV⟩)
      · refine p_iconst (pc := 98) C dX5_ofShip_98 (by decide) ?_
        refine p_goto (pc := 99) (tgt := 103) C dX5_ofShip_99 (by decide) ?_
        refine p_iret (pc := 103) C dX5_ofShip_103 ?_
        first
          | (refine ⟨fun q hq => by (repeat (refine mg_n (by omega) ?_)); rfl, ?_⟩; rw [if_pos (by omega)]; exact ⟨rfl, hV⟩)
          | (refine ⟨fun q hq => by (repeat (refine mg_n (by omega) ?_)); rfl, ?_⟩; rw [if_neg (by omega)]; exact ⟨(sv (by unfold ofS; first | (rw [if_pos (by omega)]; exact q7) | (rw [if_neg (by omega), if_pos (by omega)]; exact q8) | (rw [if_neg (by omega), if_neg (by omega), if_pos (by omega)]; exact q9) | (rw [if_neg (by omega), if_neg (by omega), if_neg (by omega), if_pos (by omega)]; skip) | (rw [if_neg (by omega), if_neg (by omega), if_neg (by omega), if_neg (by omega), if_pos (by omega)]; exact r1) | (rw [if_neg (by omega), if_neg (by omega), if_neg (by omega), if_neg (by omega), if_neg (by omega), if_neg (by omega), if_pos (by omega)]; exact wor_c hsl) | (rw [if_neg (by omega), if_neg (by omega), if_neg (by omega), if_neg (by omega), if_neg (by omega), if_neg (by omega), if_neg (by omega), if_pos (by omega)]; exact pcs_c hsl) | (rw [if_neg (by omega), if_neg (by omega), if_neg (by omega), if_neg (by omega), if_neg (by omega), if_neg (by omega), if_neg (by omega), if_neg (by omega), if_pos (by omega)]; exact (show cf (4 * k + w - 10) = _ by rw [show 4 * k + w - 10 = 4 * k + (w - 10) by omega]; exact r2 (w - 10) (by omega) (by omega))) | (rw [if_neg (by omega), if_neg (by omega), if_neg (by omega), if_neg (by omega), if_neg (by omega), if_pos (by omega)]; have q5 := r2 (nm k) n2.1 n2.2; first | rw [if_pos (by omega)] | rw [if_neg (by omega)]) | rw [if_neg (by omega), if_neg (by omega), if_neg (by omega), if_neg (by omega), if_neg (by omega), if_neg (by omega), if_neg (by omega), if_neg (by omega), if_neg (by omega)])), hV⟩)
    by_cases s_11_6 : w = 6
    · refine p_tin (pc := 11) (off := 93) (tgt := 104) C dX5_ofShip_11 (by omega) (by omega) (by rw [s_11_6]; rfl) (by decide) ?_
      refine p_aload_n (pc := 104) C dX5_ofShip_104 rfl ?_
      refine p_iload_n (pc := 105) C dX5_ofShip_105 rfl ?_
      refine p_callVF (pc := 106) C ln_X5_136 dX5_ofShip_106 (k_X5_worthOf h0 (by omega) (by omega) (by omega) h51 hbs) ⟨by omega, by omega⟩ (by (repeat refine mg_n (by omega) ?_); first | assumption | exact mup_s _ _ _) rfl rfl rfl rfl (Nat.le_of_ble_eq_true rfl) ?_
      refine p_iret (pc := 109) C dX5_ofShip_109 ?_
      first
        | (refine ⟨fun q hq => by (repeat (refine mg_n (by omega) ?_)); rfl, ?_⟩; rw [if_pos (by omega)]; exact ⟨rfl, hV⟩)
        | (refine ⟨fun q hq => by (repeat (refine mg_n (by omega) ?_)); rfl, ?_⟩; rw [if_neg (by omega)]; exact ⟨(sv (by unfold ofS; first | (rw [if_pos (by omega)]; exact q7) | (rw [if_neg (by omega), if_pos (by omega)]; exact q8) | (rw [if_neg (by omega), if_neg (by omega), if_pos (by omega)]; exact q9) | (rw [if_neg (by omega), if_neg (by omega), if_neg (by omega), if_pos (by omega)]; skip) | (rw [if_neg (by omega), if_neg (by omega), if_neg (by omega), if_neg (by omega), if_pos (by omega)]; exact r1) | (rw [if_neg (by omega), if_neg (by omega), if_neg (by omega), if_neg (by omega), if_neg (by omega), if_neg (by omega), if_pos (by omega)]; exact wor_c hsl) | (rw [if_neg (by omega), if_neg (by omega), if_neg (by omega), if_neg (by omega), if_neg (by omega), if_neg (by omega), if_neg (by omega), if_pos (by omega)]; exact pcs_c hsl) | (rw [if_neg (by omega), if_neg (by omega), if_neg (by omega), if_neg (by omega), if_neg (by omega), if_neg (by omega), if_neg (by omega), if_neg (by omega), if_pos (by omega)]; exact (show cf (4 * k + w - 10) = _ by rw [show 4 * k + w - 10 = 4 * k + (w - 10) by omega]; exact r2 (w - 10) (by omega) (by omega))) | (rw [if_neg (by omega), if_neg (by omega), if_neg (by omega), if_neg (by omega), if_neg (by omega), if_pos (by omega)]; have q5 := r2 (nm k) n2.1 n2.2; first | rw [if_pos (by omega)] | rw [if_neg (by omega)]) | rw [if_neg (by omega), if_neg (by omega), if_neg (by omega), if_neg (by omega), if_neg (by omega), if_neg (by omega), if_neg (by omega), if_neg (by omega), if_neg (by omega)])), hV⟩)
    by_cases s_11_7 : w = 7
    · refine p_tin (pc := 11) (off := 99) (tgt := 110) C dX5_ofShip_11 (by omega) (by omega) (by rw [s_11_7]; rfl) (by decide) ?_
      refine p_aload_n (pc := 110) C dX5_ofShip_110 rfl ?_
      refine p_iload_n (pc := 111) C dX5_ofShip_111 rfl ?_
      refine p_callVF (pc := 112) C ln_X5_139 dX5_ofShip_112 (k_X5_piecesOf h0 (by omega) (by omega) (by omega) h51 hbs) ⟨by omega, by omega⟩ (by (repeat refine mg_n (by omega) ?_); first | assumption | exact mup_s _ _ _) rfl rfl rfl rfl (Nat.le_of_ble_eq_true rfl) ?_
      refine p_iret (pc := 115) C dX5_ofShip_115 ?_
      first
        | (refine ⟨fun q hq => by (repeat (refine mg_n (by omega) ?_)); rfl, ?_⟩; rw [if_pos (by omega)]; exact ⟨rfl, hV⟩)
        | (refine ⟨fun q hq => by (repeat (refine mg_n (by omega) ?_)); rfl, ?_⟩; rw [if_neg (by omega)]; exact ⟨(sv (by unfold ofS; first | (rw [if_pos (by omega)]; exact q7) | (rw [if_neg (by omega), if_pos (by omega)]; exact q8) | (rw [if_neg (by omega), if_neg (by omega), if_pos (by omega)]; exact q9) | (rw [if_neg (by omega), if_neg (by omega), if_neg (by omega), if_pos (by omega)]; skip) | (rw [if_neg (by omega), if_neg (by omega), if_neg (by omega), if_neg (by omega), if_pos (by omega)]; exact r1) | (rw [if_neg (by omega), if_neg (by omega), if_neg (by omega), if_neg (by omega), if_neg (by omega), if_neg (by omega), if_pos (by omega)]; exact wor_c hsl) | (rw [if_neg (by omega), if_neg (by omega), if_neg (by omega), if_neg (by omega), if_neg (by omega), if_neg (by omega), if_neg (by omega), if_pos (by omega)]; exact pcs_c hsl) | (rw [if_neg (by omega), if_neg (by omega), if_neg (by omega), if_neg (by omega), if_neg (by omega), if_neg (by omega), if_neg (by omega), if_neg (by omega), if_pos (by omega)]; exact (show cf (4 * k + w - 10) = _ by rw [show 4 * k + w - 10 = 4 * k + (w - 10) by omega]; exact r2 (w - 10) (by omega) (by omega))) | (rw [if_neg (by omega), if_neg (by omega), if_neg (by omega), if_neg (by omega), if_neg (by omega), if_pos (by omega)]; have q5 := r2 (nm k) n2.1 n2.2; first | rw [if_pos (by omega)] | rw [if_neg (by omega)]) | rw [if_neg (by omega), if_neg (by omega), if_neg (by omega), if_neg (by omega), if_neg (by omega), if_neg (by omega), if_neg (by omega), if_neg (by omega), if_neg (by omega)])), hV⟩)
    refine p_tout (pc := 11) (tgt := 116) C dX5_ofShip_11 (by omega) (by decide) ?_
    refine p_iload_n (pc := 116) C dX5_ofShip_116 rfl ?_
    refine p_bipush (pc := 117) C dX5_ofShip_117 (by decide) ?_
    refine p_bipush (pc := 119) C dX5_ofShip_119 (by decide) ?_
    refine p_callSF (pc := 121) C ln_X5_67 dX5_ofShip_121 (k_X5_within) rfl rfl (Nat.le_of_ble_eq_true rfl) ?_
    refine p_ifeq_b (pc := 124) (tgt := 143) C dX5_ofShip_124 (by decide) (fun c_124 => ?_) (fun c_124 => ?_)
    · refine p_bipush (pc := 143) C dX5_ofShip_143 (by decide) ?_
      refine p_iret (pc := 145) C dX5_ofShip_145 ?_
      first
        | (refine ⟨fun q hq => by (repeat (refine mg_n (by omega) ?_)); rfl, ?_⟩; rw [if_pos (by omega)]; exact ⟨rfl, hV⟩)
        | (refine ⟨fun q hq => by (repeat (refine mg_n (by omega) ?_)); rfl, ?_⟩; rw [if_neg (by omega)]; exact ⟨(sv (by unfold ofS; first | (rw [if_pos (by omega)]; exact q7) | (rw [if_neg (by omega), if_pos (by omega)]; exact q8) | (rw [if_neg (by omega), if_neg (by omega), if_pos (by omega)]; exact q9) | (rw [if_neg (by omega), if_neg (by omega), if_neg (by omega), if_pos (by omega)]; skip) | (rw [if_neg (by omega), if_neg (by omega), if_neg (by omega), if_neg (by omega), if_pos (by omega)]; exact r1) | (rw [if_neg (by omega), if_neg (by omega), if_neg (by omega), if_neg (by omega), if_neg (by omega), if_neg (by omega), if_pos (by omega)]; exact wor_c hsl) | (rw [if_neg (by omega), if_neg (by omega), if_neg (by omega), if_neg (by omega), if_neg (by omega), if_neg (by omega), if_neg (by omega), if_pos (by omega)]; exact pcs_c hsl) | (rw [if_neg (by omega), if_neg (by omega), if_neg (by omega), if_neg (by omega), if_neg (by omega), if_neg (by omega), if_neg (by omega), if_neg (by omega), if_pos (by omega)]; exact (show cf (4 * k + w - 10) = _ by rw [show 4 * k + w - 10 = 4 * k + (w - 10) by omega]; exact r2 (w - 10) (by omega) (by omega))) | (rw [if_neg (by omega), if_neg (by omega), if_neg (by omega), if_neg (by omega), if_neg (by omega), if_pos (by omega)]; have q5 := r2 (nm k) n2.1 n2.2; first | rw [if_pos (by omega)] | rw [if_neg (by omega)]) | rw [if_neg (by omega), if_neg (by omega), if_neg (by omega), if_neg (by omega), if_neg (by omega), if_neg (by omega), if_neg (by omega), if_neg (by omega), if_neg (by omega)])), hV⟩)
    · refine p_aload_n (pc := 127) C dX5_ofShip_127 rfl ?_
      refine p_get (pc := 128) C fl_X5_34 dX5_ofShip_128 ⟨by omega, by omega⟩ (by (repeat refine mg_n (by omega) ?_); first | assumption | exact mup_s _ _ _) (by rfl) ?_
      refine p_iconst (pc := 131) C dX5_ofShip_131 (by decide) ?_
      refine p_iload_n (pc := 132) C dX5_ofShip_132 rfl ?_
      refine p_imul (pc := 133) C dX5_ofShip_133 ⟨by omega, by omega⟩ ?_
      refine p_iload_n (pc := 134) C dX5_ofShip_134 rfl ?_
      refine p_iadd (pc := 135) C dX5_ofShip_135 ⟨by omega, by omega⟩ ?_
      refine p_bipush (pc := 136) C dX5_ofShip_136 (by decide) ?_
      refine p_isub (pc := 138) C dX5_ofShip_138 ⟨by omega, by omega⟩ ?_
      refine p_iald (pc := 139) C dX5_ofShip_139 ⟨by omega, by omega⟩ (by (repeat refine mg_n (by omega) ?_); first | assumption | exact mup_s _ _ _) (by omega) ?_
      refine p_goto (pc := 140) (tgt := 145) C dX5_ofShip_140 (by decide) ?_
      refine p_iret (pc := 145) C dX5_ofShip_145 ?_
      first
        | (refine ⟨fun q hq => by (repeat (refine mg_n (by omega) ?_)); rfl, ?_⟩; rw [if_pos (by omega)]; exact ⟨rfl, hV⟩)
        | (refine ⟨fun q hq => by (repeat (refine mg_n (by omega) ?_)); rfl, ?_⟩; rw [if_neg (by omega)]; exact ⟨(sv (by unfold ofS; first | (rw [if_pos (by omega)]; exact q7) | (rw [if_neg (by omega), if_pos (by omega)]; exact q8) | (rw [if_neg (by omega), if_neg (by omega), if_pos (by omega)]; exact q9) | (rw [if_neg (by omega), if_neg (by omega), if_neg (by omega), if_pos (by omega)]; skip) | (rw [if_neg (by omega), if_neg (by omega), if_neg (by omega), if_neg (by omega), if_pos (by omega)]; exact r1) | (rw [if_neg (by omega), if_neg (by omega), if_neg (by omega), if_neg (by omega), if_neg (by omega), if_neg (by omega), if_pos (by omega)]; exact wor_c hsl) | (rw [if_neg (by omega), if_neg (by omega), if_neg (by omega), if_neg (by omega), if_neg (by omega), if_neg (by omega), if_neg (by omega), if_pos (by omega)]; exact pcs_c hsl) | (rw [if_neg (by omega), if_neg (by omega), if_neg (by omega), if_neg (by omega), if_neg (by omega), if_neg (by omega), if_neg (by omega), if_neg (by omega), if_pos (by omega)]; exact (show cf (4 * k + w - 10) = _ by rw [show 4 * k + w - 10 = 4 * k + (w - 10) by omega]; exact r2 (w - 10) (by omega) (by omega))) | (rw [if_neg (by omega), if_neg (by omega), if_neg (by omega), if_neg (by omega), if_neg (by omega), if_pos (by omega)]; have q5 := r2 (nm k) n2.1 n2.2; first | rw [if_pos (by omega)] | rw [if_neg (by omega)]) | rw [if_neg (by omega), if_neg (by omega), if_neg (by omega), if_neg (by omega), if_neg (by omega), if_neg (by omega), if_neg (by omega), if_neg (by omega), if_neg (by omega)])), hV⟩)
  · refine p_iconst (pc := 8) C dX5_ofShip_8 (by decide) ?_
    refine p_iret (pc := 9) C dX5_ofShip_9 ?_
    first
      | (refine ⟨fun q hq => by (repeat (refine mg_n (by omega) ?_)); rfl, ?_⟩; rw [if_pos (by omega)]; exact ⟨rfl, hV⟩)
      | (refine ⟨fun q hq => by (repeat (refine mg_n (by omega) ?_)); rfl, ?_⟩; rw [if_neg (by omega)]; exact ⟨(sv (by unfold ofS; first | (rw [if_pos (by omega)]; exact q7) | (rw [if_neg (by omega), if_pos (by omega)]; exact q8) | (rw [if_neg (by omega), if_neg (by omega), if_pos (by omega)]; exact q9) | (rw [if_neg (by omega), if_neg (by omega), if_neg (by omega), if_pos (by omega)]; skip) | (rw [if_neg (by omega), if_neg (by omega), if_neg (by omega), if_neg (by omega), if_pos (by omega)]; exact r1) | (rw [if_neg (by omega), if_neg (by omega), if_neg (by omega), if_neg (by omega), if_neg (by omega), if_neg (by omega), if_pos (by omega)]; exact wor_c hsl) | (rw [if_neg (by omega), if_neg (by omega), if_neg (by omega), if_neg (by omega), if_neg (by omega), if_neg (by omega), if_neg (by omega), if_pos (by omega)]; exact pcs_c hsl) | (rw [if_neg (by omega), if_neg (by omega), if_neg (by omega), if_neg (by omega), if_neg (by omega), if_neg (by omega), if_neg (by omega), if_neg (by omega), if_pos (by omega)]; exact (show cf (4 * k + w - 10) = _ by rw [show 4 * k + w - 10 = 4 * k + (w - 10) by omega]; exact r2 (w - 10) (by omega) (by omega))) | (rw [if_neg (by omega), if_neg (by omega), if_neg (by omega), if_neg (by omega), if_neg (by omega), if_pos (by omega)]; have q5 := r2 (nm k) n2.1 n2.2; first | rw [if_pos (by omega)] | rw [if_neg (by omega)]) | rw [if_neg (by omega), if_neg (by omega), if_neg (by omega), if_neg (by omega), if_neg (by omega), if_neg (by omega), if_neg (by omega), if_neg (by omega), if_neg (by omega)])), hV⟩)

set_option maxHeartbeats 4000000 in
set_option maxRecDepth 100000 in
theorem q_X5_rough {K : KX} {d : Nat} {μ : Int → ME} {p : Int} {np ns day nr tr fl : Int} {rg kd nm sg pt : Int → Int} {ca : Int → Int → Int} {rs rp rl th la ln : Int → Int} {ce : Int → Int → Int} (hV : MV np ns day nr tr fl rg kd nm sg pt ca rs rp rl th la ln ce μ) (hW : WF np ns day nr tr fl rg kd nm sg pt ca rs rp rl th la ln ce) : Ct K (d + 1) yX5_rough cX5_rough 2 (some .int) [vR 42, vI p] μ (fun r μ' => (∀ a, a < 42 → μ' a = μ a) ∧ (if ¬ (0 ≤ p ∧ p < np) then r = some (vI (-1)) ∧ MV np ns day nr tr fl rg kd nm sg pt ca rs rp rl th la ln ce μ' else r = some (vI (rg p)) ∧ MV np ns day nr tr fl rg kd nm sg pt ca rs rp rl th la ln ce μ')) := by
  refine Ct.of (by decide) (Nat.le_of_ble_eq_true rfl) (fun X C => ?_)
  obtain ⟨m42, m43, m44, m45, mB, mD, ⟨m52, m53, m54, m55, m56⟩, m57, m58, m59⟩ := id hV
  obtain ⟨m46, m47, m48, m49⟩ := id mB
  obtain ⟨at_, rP, rS, lp, lw, lf, sL, sF, h0⟩ := id m42
  obtain ⟨f43, h43, e43⟩ := id m43
  obtain ⟨f44, h44, e44⟩ := id m44
  obtain ⟨f45, h45, e45⟩ := id m45
  obtain ⟨f46, h46, e46⟩ := id m46
  obtain ⟨f47, h47, e47⟩ := id m47
  obtain ⟨f48, h48, e48⟩ := id m48
  obtain ⟨f49, h49, e49⟩ := id m49
  obtain ⟨pf, cf, h50, h51, hMR⟩ := id mD
  obtain ⟨f57, h57, e57⟩ := id m57
  obtain ⟨f58, h58, e58⟩ := id m58
  obtain ⟨f59, h59, e59⟩ := id m59
  obtain ⟨w0, w1, w2, w3, w4, w5, w6⟩ := id hW
  refine p_aload_n (pc := 0) C dX5_rough_0 rfl ?_
  refine p_iload_n (pc := 1) C dX5_rough_1 rfl ?_
  refine p_callVF (pc := 2) C ln_X5_142 dX5_rough_2 (k_X5_isPort h0) ⟨by omega, by omega⟩ (by (repeat refine mg_n (by omega) ?_); first | assumption | exact mup_s _ _ _) rfl rfl rfl rfl (Nat.le_of_ble_eq_true rfl) ?_
  refine p_ifeq_b (pc := 5) (tgt := 17) C dX5_rough_5 (by decide) (fun c_5 => ?_) (fun c_5 => ?_)
  · refine p_iconst (pc := 17) C dX5_rough_17 (by decide) ?_
    refine p_iret (pc := 18) C dX5_rough_18 ?_
    first
      | (refine ⟨fun q hq => by (repeat (refine mg_n (by omega) ?_)); rfl, ?_⟩; rw [if_pos (by omega)]; exact ⟨rfl, hV⟩)
      | (refine ⟨fun q hq => by (repeat (refine mg_n (by omega) ?_)); rfl, ?_⟩; rw [if_neg (by omega)]; exact ⟨sv (e46 p (by omega) (by omega)), hV⟩)
  · refine p_aload_n (pc := 8) C dX5_rough_8 rfl ?_
    refine p_get (pc := 9) C fl_X5_19 dX5_rough_9 ⟨by omega, by omega⟩ (by (repeat refine mg_n (by omega) ?_); first | assumption | exact mup_s _ _ _) (by rfl) ?_
    refine p_iload_n (pc := 12) C dX5_rough_12 rfl ?_
    refine p_iald (pc := 13) C dX5_rough_13 ⟨by omega, by omega⟩ (by (repeat refine mg_n (by omega) ?_); first | assumption | exact mup_s _ _ _) (by omega) ?_
    refine p_goto (pc := 14) (tgt := 18) C dX5_rough_14 (by decide) ?_
    refine p_iret (pc := 18) C dX5_rough_18 ?_
    first
      | (refine ⟨fun q hq => by (repeat (refine mg_n (by omega) ?_)); rfl, ?_⟩; rw [if_pos (by omega)]; exact ⟨rfl, hV⟩)
      | (refine ⟨fun q hq => by (repeat (refine mg_n (by omega) ?_)); rfl, ?_⟩; rw [if_neg (by omega)]; exact ⟨sv (e46 p (by omega) (by omega)), hV⟩)

set_option maxHeartbeats 4000000 in
set_option maxRecDepth 100000 in
theorem q_X5_blow {K : KX} {d : Nat} {μ : Int → ME} {p v : Int} {np ns day nr tr fl : Int} {rg kd nm sg pt : Int → Int} {ca : Int → Int → Int} {rs rp rl th la ln : Int → Int} {ce : Int → Int → Int} (hV : MV np ns day nr tr fl rg kd nm sg pt ca rs rp rl th la ln ce μ) (hW : WF np ns day nr tr fl rg kd nm sg pt ca rs rp rl th la ln ce) : Ct K (d + 2) yX5_blow cX5_blow 4 (some .int) [vR 42, vI p, vI v] μ (fun r μ' => (∀ a, a < 42 → μ' a = μ a) ∧ (if ¬ (0 ≤ p ∧ p < np) then r = some (vI (-1)) ∧ MV np ns day nr tr fl rg kd nm sg pt ca rs rp rl th la ln ce μ' else if ¬ (0 ≤ v ∧ v ≤ 9) then r = some (vI (-2)) ∧ MV np ns day nr tr fl rg kd nm sg pt ca rs rp rl th la ln ce μ' else r = some (vI (rg p)) ∧ MV np ns day nr tr fl (fup rg p v) kd nm sg pt ca rs rp rl th la ln ce μ')) := by
  refine Ct.of (by decide) (Nat.le_of_ble_eq_true rfl) (fun X C => ?_)
  obtain ⟨m42, m43, m44, m45, mB, mD, ⟨m52, m53, m54, m55, m56⟩, m57, m58, m59⟩ := id hV
  obtain ⟨m46, m47, m48, m49⟩ := id mB
  obtain ⟨at_, rP, rS, lp, lw, lf, sL, sF, h0⟩ := id m42
  obtain ⟨f43, h43, e43⟩ := id m43
  obtain ⟨f44, h44, e44⟩ := id m44
  obtain ⟨f45, h45, e45⟩ := id m45
  obtain ⟨f46, h46, e46⟩ := id m46
  obtain ⟨f47, h47, e47⟩ := id m47
  obtain ⟨f48, h48, e48⟩ := id m48
  obtain ⟨f49, h49, e49⟩ := id m49
  obtain ⟨pf, cf, h50, h51, hMR⟩ := id mD
  obtain ⟨f57, h57, e57⟩ := id m57
  obtain ⟨f58, h58, e58⟩ := id m58
  obtain ⟨f59, h59, e59⟩ := id m59
  obtain ⟨w0, w1, w2, w3, w4, w5, w6⟩ := id hW
  refine p_aload_n (pc := 0) C dX5_blow_0 rfl ?_
  refine p_iload_n (pc := 1) C dX5_blow_1 rfl ?_
  refine p_callVF (pc := 2) C ln_X5_142 dX5_blow_2 (k_X5_isPort h0) ⟨by omega, by omega⟩ (by (repeat refine mg_n (by omega) ?_); first | assumption | exact mup_s _ _ _) rfl rfl rfl rfl (Nat.le_of_ble_eq_true rfl) ?_
  refine p_ifne_b (pc := 5) (tgt := 10) C dX5_blow_5 (by decide) (fun c_5 => ?_) (fun c_5 => ?_)
  · refine p_iload_n (pc := 10) C dX5_blow_10 rfl ?_
    refine p_callSF (pc := 11) C ln_X5_145 dX5_blow_11 (k_X5_isDigit) rfl rfl (Nat.le_of_ble_eq_true rfl) ?_
    refine p_ifne_b (pc := 14) (tgt := 20) C dX5_blow_14 (by decide) (fun c_14 => ?_) (fun c_14 => ?_)
    · refine p_aload_n (pc := 20) C dX5_blow_20 rfl ?_
      refine p_get (pc := 21) C fl_X5_19 dX5_blow_21 ⟨by omega, by omega⟩ (by (repeat refine mg_n (by omega) ?_); first | assumption | exact mup_s _ _ _) (by rfl) ?_
      refine p_iload_n (pc := 24) C dX5_blow_24 rfl ?_
      refine p_iald (pc := 25) C dX5_blow_25 ⟨by omega, by omega⟩ (by (repeat refine mg_n (by omega) ?_); first | assumption | exact mup_s _ _ _) (by omega) ?_
      refine p_istore_n (pc := 26) (ls' := [(3, _), (0, _), (1, _), (2, _)]) C dX5_blow_26 (by decide) rfl ?_
      refine p_aload_n (pc := 27) C dX5_blow_27 rfl ?_
      refine p_get (pc := 28) C fl_X5_19 dX5_blow_28 ⟨by omega, by omega⟩ (by (repeat refine mg_n (by omega) ?_); first | assumption | exact mup_s _ _ _) (by rfl) ?_
      refine p_iload_n (pc := 31) C dX5_blow_31 rfl ?_
      refine p_iload_n (pc := 32) C dX5_blow_32 rfl ?_
      refine p_iast (pc := 33) C dX5_blow_33 ⟨by omega, by omega⟩ (by (repeat refine mg_n (by omega) ?_); first | assumption | exact mup_s _ _ _) (by omega) ?_
      try refine p_mem (mup_mup _ _ _ _) ?_
      refine p_iload_n (pc := 34) C dX5_blow_34 rfl ?_
      refine p_iret (pc := 35) C dX5_blow_35 ?_
      first
        | (refine ⟨fun q hq => by (repeat (refine mg_n (by omega) ?_)); rfl, ?_⟩; rw [if_pos (by omega)]; exact ⟨rfl, hV⟩)
        | (refine ⟨fun q hq => by (repeat (refine mg_n (by omega) ?_)); rfl, ?_⟩; rw [if_neg (by omega), if_pos (by omega)]; exact ⟨rfl, hV⟩)
        | (refine ⟨fun q hq => by (repeat (refine mg_n (by omega) ?_)); rfl, ?_⟩; rw [if_neg (by omega), if_neg (by omega)]; exact ⟨sv (e46 p (by omega) (by omega)), MV_46 hV (fup_e e46)⟩)
    · refine p_bipush (pc := 17) C dX5_blow_17 (by decide) ?_
      refine p_iret (pc := 19) C dX5_blow_19 ?_
      first
        | (refine ⟨fun q hq => by (repeat (refine mg_n (by omega) ?_)); rfl, ?_⟩; rw [if_pos (by omega)]; exact ⟨rfl, hV⟩)
        | (refine ⟨fun q hq => by (repeat (refine mg_n (by omega) ?_)); rfl, ?_⟩; rw [if_neg (by omega), if_pos (by omega)]; exact ⟨rfl, hV⟩)
        | (refine ⟨fun q hq => by (repeat (refine mg_n (by omega) ?_)); rfl, ?_⟩; rw [if_neg (by omega), if_neg (by omega)]; exact ⟨sv (e46 p (by omega) (by omega)), MV_46 hV (fup_e e46)⟩)
  · refine p_iconst (pc := 8) C dX5_blow_8 (by decide) ?_
    refine p_iret (pc := 9) C dX5_blow_9 ?_
    first
      | (refine ⟨fun q hq => by (repeat (refine mg_n (by omega) ?_)); rfl, ?_⟩; rw [if_pos (by omega)]; exact ⟨rfl, hV⟩)
      | (refine ⟨fun q hq => by (repeat (refine mg_n (by omega) ?_)); rfl, ?_⟩; rw [if_neg (by omega), if_pos (by omega)]; exact ⟨rfl, hV⟩)
      | (refine ⟨fun q hq => by (repeat (refine mg_n (by omega) ?_)); rfl, ?_⟩; rw [if_neg (by omega), if_neg (by omega)]; exact ⟨sv (e46 p (by omega) (by omega)), MV_46 hV (fup_e e46)⟩)

set_option maxHeartbeats 4000000 in
set_option maxRecDepth 100000 in
theorem q_X5_name {K : KX} {d : Nat} {μ : Int → ME} {k g : Int} {np ns day nr tr fl : Int} {rg kd nm sg pt : Int → Int} {ca : Int → Int → Int} {rs rp rl th la ln : Int → Int} {ce : Int → Int → Int} (hV : MV np ns day nr tr fl rg kd nm sg pt ca rs rp rl th la ln ce μ) (hW : WF np ns day nr tr fl rg kd nm sg pt ca rs rp rl th la ln ce) : Ct K (d + 2) yX5_name cX5_name 4 (some .int) [vR 42, vI k, vI g] μ (fun r μ' => (∀ a, a < 42 → μ' a = μ a) ∧ (if ¬ (0 ≤ k ∧ k < ns) then r = some (vI (-1)) ∧ MV np ns day nr tr fl rg kd nm sg pt ca rs rp rl th la ln ce μ' else if ¬ (0 ≤ g ∧ g < 4) then r = some (vI (-2)) ∧ MV np ns day nr tr fl rg kd nm sg pt ca rs rp rl th la ln ce μ' else r = some (vI (nm k)) ∧ MV np ns day nr tr fl rg kd (fup nm k g) sg pt ca rs rp rl th la ln ce μ')) := by
  refine Ct.of (by decide) (Nat.le_of_ble_eq_true rfl) (fun X C => ?_)
  obtain ⟨m42, m43, m44, m45, mB, mD, ⟨m52, m53, m54, m55, m56⟩, m57, m58, m59⟩ := id hV
  obtain ⟨m46, m47, m48, m49⟩ := id mB
  obtain ⟨at_, rP, rS, lp, lw, lf, sL, sF, h0⟩ := id m42
  obtain ⟨f43, h43, e43⟩ := id m43
  obtain ⟨f44, h44, e44⟩ := id m44
  obtain ⟨f45, h45, e45⟩ := id m45
  obtain ⟨f46, h46, e46⟩ := id m46
  obtain ⟨f47, h47, e47⟩ := id m47
  obtain ⟨f48, h48, e48⟩ := id m48
  obtain ⟨f49, h49, e49⟩ := id m49
  obtain ⟨pf, cf, h50, h51, hMR⟩ := id mD
  obtain ⟨f57, h57, e57⟩ := id m57
  obtain ⟨f58, h58, e58⟩ := id m58
  obtain ⟨f59, h59, e59⟩ := id m59
  obtain ⟨w0, w1, w2, w3, w4, w5, w6⟩ := id hW
  refine p_aload_n (pc := 0) C dX5_name_0 rfl ?_
  refine p_iload_n (pc := 1) C dX5_name_1 rfl ?_
  refine p_callVF (pc := 2) C ln_X5_127 dX5_name_2 (k_X5_isShip (by (repeat refine mg_n (by omega) ?_); first | assumption | exact mup_s _ _ _)) ⟨by omega, by omega⟩ (by (repeat refine mg_n (by omega) ?_); first | assumption | exact mup_s _ _ _) rfl rfl rfl rfl (Nat.le_of_ble_eq_true rfl) ?_
  refine p_ifne_b (pc := 5) (tgt := 10) C dX5_name_5 (by decide) (fun c_5 => ?_) (fun c_5 => ?_)
  · refine p_iload_n (pc := 10) C dX5_name_10 rfl ?_
    refine p_callSF (pc := 11) C ln_X5_148 dX5_name_11 (k_X5_isGood) rfl rfl (Nat.le_of_ble_eq_true rfl) ?_
    refine p_ifne_b (pc := 14) (tgt := 20) C dX5_name_14 (by decide) (fun c_14 => ?_) (fun c_14 => ?_)
    · refine p_aload_n (pc := 20) C dX5_name_20 rfl ?_
      refine p_get (pc := 21) C fl_X5_25 dX5_name_21 ⟨by omega, by omega⟩ (by (repeat refine mg_n (by omega) ?_); first | assumption | exact mup_s _ _ _) (by rfl) ?_
      refine p_iload_n (pc := 24) C dX5_name_24 rfl ?_
      refine p_iald (pc := 25) C dX5_name_25 ⟨by omega, by omega⟩ (by (repeat refine mg_n (by omega) ?_); first | assumption | exact mup_s _ _ _) (by omega) ?_
      refine p_istore_n (pc := 26) (ls' := [(3, _), (0, _), (1, _), (2, _)]) C dX5_name_26 (by decide) rfl ?_
      refine p_aload_n (pc := 27) C dX5_name_27 rfl ?_
      refine p_get (pc := 28) C fl_X5_25 dX5_name_28 ⟨by omega, by omega⟩ (by (repeat refine mg_n (by omega) ?_); first | assumption | exact mup_s _ _ _) (by rfl) ?_
      refine p_iload_n (pc := 31) C dX5_name_31 rfl ?_
      refine p_iload_n (pc := 32) C dX5_name_32 rfl ?_
      refine p_iast (pc := 33) C dX5_name_33 ⟨by omega, by omega⟩ (by (repeat refine mg_n (by omega) ?_); first | assumption | exact mup_s _ _ _) (by omega) ?_
      try refine p_mem (mup_mup _ _ _ _) ?_
      refine p_iload_n (pc := 34) C dX5_name_34 rfl ?_
      refine p_iret (pc := 35) C dX5_name_35 ?_
      first
        | (refine ⟨fun q hq => by (repeat (refine mg_n (by omega) ?_)); rfl, ?_⟩; rw [if_pos (by omega)]; exact ⟨rfl, hV⟩)
        | (refine ⟨fun q hq => by (repeat (refine mg_n (by omega) ?_)); rfl, ?_⟩; rw [if_neg (by omega), if_pos (by omega)]; exact ⟨rfl, hV⟩)
        | (refine ⟨fun q hq => by (repeat (refine mg_n (by omega) ?_)); rfl, ?_⟩; rw [if_neg (by omega), if_neg (by omega)]; exact ⟨sv (e48 k (by omega) (by omega)), MV_48 hV (fup_e e48)⟩)
    · refine p_bipush (pc := 17) C dX5_name_17 (by decide) ?_
      refine p_iret (pc := 19) C dX5_name_19 ?_
      first
        | (refine ⟨fun q hq => by (repeat (refine mg_n (by omega) ?_)); rfl, ?_⟩; rw [if_pos (by omega)]; exact ⟨rfl, hV⟩)
        | (refine ⟨fun q hq => by (repeat (refine mg_n (by omega) ?_)); rfl, ?_⟩; rw [if_neg (by omega), if_pos (by omega)]; exact ⟨rfl, hV⟩)
        | (refine ⟨fun q hq => by (repeat (refine mg_n (by omega) ?_)); rfl, ?_⟩; rw [if_neg (by omega), if_neg (by omega)]; exact ⟨sv (e48 k (by omega) (by omega)), MV_48 hV (fup_e e48)⟩)
  · refine p_iconst (pc := 8) C dX5_name_8 (by decide) ?_
    refine p_iret (pc := 9) C dX5_name_9 ?_
    first
      | (refine ⟨fun q hq => by (repeat (refine mg_n (by omega) ?_)); rfl, ?_⟩; rw [if_pos (by omega)]; exact ⟨rfl, hV⟩)
      | (refine ⟨fun q hq => by (repeat (refine mg_n (by omega) ?_)); rfl, ?_⟩; rw [if_neg (by omega), if_pos (by omega)]; exact ⟨rfl, hV⟩)
      | (refine ⟨fun q hq => by (repeat (refine mg_n (by omega) ?_)); rfl, ?_⟩; rw [if_neg (by omega), if_neg (by omega)]; exact ⟨sv (e48 k (by omega) (by omega)), MV_48 hV (fup_e e48)⟩)

set_option maxHeartbeats 4000000 in
set_option maxRecDepth 100000 in
theorem q_X5_load {K : KX} {d : Nat} {μ : Int → ME} {k g n : Int} {np ns day nr tr fl : Int} {rg kd nm sg pt : Int → Int} {ca : Int → Int → Int} {rs rp rl th la ln : Int → Int} {ce : Int → Int → Int} (hV : MV np ns day nr tr fl rg kd nm sg pt ca rs rp rl th la ln ce μ) (hW : WF np ns day nr tr fl rg kd nm sg pt ca rs rp rl th la ln ce) : Ct K (d + 2) yX5_load cX5_load 4 (some .int) [vR 42, vI k, vI g, vI n] μ (fun r μ' => (∀ a, a < 42 → μ' a = μ a) ∧ (if ¬ (0 ≤ k ∧ k < ns) then r = some (vI (-1)) ∧ MV np ns day nr tr fl rg kd nm sg pt ca rs rp rl th la ln ce μ' else if ¬ ((0 ≤ g ∧ g < 4) ∧ (1 ≤ n ∧ n ≤ 9)) then r = some (vI (-2)) ∧ MV np ns day nr tr fl rg kd nm sg pt ca rs rp rl th la ln ce μ' else if 9 < ca k g + n then r = some (vI (-4)) ∧ MV np ns day nr tr fl rg kd nm sg pt ca rs rp rl th la ln ce μ' else r = some (vI (ca k g + n)) ∧ MV np ns day nr tr fl rg kd nm sg pt (cup ca k (fup (ca k) g (ca k g + n))) rs rp rl th la ln ce μ')) := by
  refine Ct.of (by decide) (Nat.le_of_ble_eq_true rfl) (fun X C => ?_)
  obtain ⟨m42, m43, m44, m45, mB, mD, ⟨m52, m53, m54, m55, m56⟩, m57, m58, m59⟩ := id hV
  obtain ⟨m46, m47, m48, m49⟩ := id mB
  obtain ⟨at_, rP, rS, lp, lw, lf, sL, sF, h0⟩ := id m42
  obtain ⟨f43, h43, e43⟩ := id m43
  obtain ⟨f44, h44, e44⟩ := id m44
  obtain ⟨f45, h45, e45⟩ := id m45
  obtain ⟨f46, h46, e46⟩ := id m46
  obtain ⟨f47, h47, e47⟩ := id m47
  obtain ⟨f48, h48, e48⟩ := id m48
  obtain ⟨f49, h49, e49⟩ := id m49
  obtain ⟨pf, cf, h50, h51, hMR⟩ := id mD
  obtain ⟨f57, h57, e57⟩ := id m57
  obtain ⟨f58, h58, e58⟩ := id m58
  obtain ⟨f59, h59, e59⟩ := id m59
  obtain ⟨w0, w1, w2, w3, w4, w5, w6⟩ := id hW
  refine p_aload_n (pc := 0) C dX5_load_0 rfl ?_
  refine p_iload_n (pc := 1) C dX5_load_1 rfl ?_
  refine p_callVF (pc := 2) C ln_X5_127 dX5_load_2 (k_X5_isShip (by (repeat refine mg_n (by omega) ?_); first | assumption | exact mup_s _ _ _)) ⟨by omega, by omega⟩ (by (repeat refine mg_n (by omega) ?_); first | assumption | exact mup_s _ _ _) rfl rfl rfl rfl (Nat.le_of_ble_eq_true rfl) ?_
  refine p_ifne_b (pc := 5) (tgt := 10) C dX5_load_5 (by decide) (fun c_5 => ?_) (fun c_5 => ?_)
  · refine p_iload_n (pc := 10) C dX5_load_10 rfl ?_
    refine p_callSF (pc := 11) C ln_X5_148 dX5_load_11 (k_X5_isGood) rfl rfl (Nat.le_of_ble_eq_true rfl) ?_
    refine p_ifeq_b (pc := 14) (tgt := 27) C dX5_load_14 (by decide) (fun c_14 => ?_) (fun c_14 => ?_)
    · refine p_bipush (pc := 27) C dX5_load_27 (by decide) ?_
      refine p_iret (pc := 29) C dX5_load_29 ?_
      first
        | (refine ⟨fun q hq => by (repeat (refine mg_n (by omega) ?_)); rfl, ?_⟩; rw [if_pos (by omega)]; exact ⟨rfl, hV⟩)
        | (refine ⟨fun q hq => by (repeat (refine mg_n (by omega) ?_)); rfl, ?_⟩; rw [if_neg (by omega), if_pos (by omega)]; exact ⟨rfl, hV⟩)
        | (refine ⟨fun q hq => by (repeat (refine mg_n (by omega) ?_)); rfl, ?_⟩; rw [if_neg (by omega), if_neg (by omega), if_pos (by omega)]; exact ⟨rfl, hV⟩)
        | (refine ⟨fun q hq => by (repeat (refine mg_n (by omega) ?_)); rfl, ?_⟩; rw [if_neg (by omega), if_neg (by omega), if_neg (by omega)]; exact ⟨sv (by rw [fup_s, qg]), (MV_51 hV h50 (by rw [← qg]; exact MR_act (S := (pt, ca, 0, 0, -9)) hMR (by omega)))⟩)
    · refine p_iload_n (pc := 17) C dX5_load_17 rfl ?_
      refine p_iconst (pc := 18) C dX5_load_18 (by decide) ?_
      refine p_bipush (pc := 19) C dX5_load_19 (by decide) ?_
      refine p_callSF (pc := 21) C ln_X5_67 dX5_load_21 (k_X5_within) rfl rfl (Nat.le_of_ble_eq_true rfl) ?_
      refine p_ifne_b (pc := 24) (tgt := 30) C dX5_load_24 (by decide) (fun c_24 => ?_) (fun c_24 => ?_)
      · obtain ⟨n1, n2, n3⟩ := w3 k (by omega) (by omega)
        obtain ⟨x1, x2⟩ := w4 k (by omega) (by omega)
        obtain ⟨r1, r2⟩ := hMR k (by omega) (by omega)
        dsimp only at r1 r2
        have q7 := e47 k (by omega) (by omega)
        have q8 := e48 k (by omega) (by omega)
        have q9 := e49 k (by omega) (by omega)
        have hsl : ∀ g, 0 ≤ g → g < 4 → (fun g => cf (4 * k + g)) g = ca k g := fun g g0 g1 => r2 g g0 g1
        have hbs : bd4 (fun g => cf (4 * k + g)) 100 := bd4_c hsl (x2.le (by omega))
        have qg := r2 g (by omega) (by omega)
        have xg := x2.at (g := g) (by omega) (by omega)
        refine p_aload_n (pc := 30) C dX5_load_30 rfl ?_
        refine p_get (pc := 31) C fl_X5_34 dX5_load_31 ⟨by omega, by omega⟩ (by (repeat refine mg_n (by omega) ?_); first | assumption | exact mup_s _ _ _) (by rfl) ?_
        refine p_iconst (pc := 34) C dX5_load_34 (by decide) ?_
        refine p_iload_n (pc := 35) C dX5_load_35 rfl ?_
        refine p_imul (pc := 36) C dX5_load_36 ⟨by omega, by omega⟩ ?_
        refine p_iload_n (pc := 37) C dX5_load_37 rfl ?_
        refine p_iadd (pc := 38) C dX5_load_38 ⟨by omega, by omega⟩ ?_
        refine p_iald (pc := 39) C dX5_load_39 ⟨by omega, by omega⟩ (by (repeat refine mg_n (by omega) ?_); first | assumption | exact mup_s _ _ _) (by omega) ?_
        refine p_iload_n (pc := 40) C dX5_load_40 rfl ?_
        refine p_iadd (pc := 41) C dX5_load_41 ⟨by omega, by omega⟩ ?_
        refine p_bipush (pc := 42) C dX5_load_42 (by decide) ?_
        refine p_icmp_le (pc := 44) (tgt := 50) C dX5_load_44 (by decide) (fun c_44 => ?_) (fun c_44 => ?_)
        · refine p_aload_n (pc := 50) C dX5_load_50 rfl ?_
          refine p_get (pc := 51) C fl_X5_34 dX5_load_51 ⟨by omega, by omega⟩ (by (repeat refine mg_n (by omega) ?_); first | assumption | exact mup_s _ _ _) (by rfl) ?_
          refine p_iconst (pc := 54) C dX5_load_54 (by decide) ?_
          refine p_iload_n (pc := 55) C dX5_load_55 rfl ?_
          refine p_imul (pc := 56) C dX5_load_56 ⟨by omega, by omega⟩ ?_
          refine p_iload_n (pc := 57) C dX5_load_57 rfl ?_
          refine p_iadd (pc := 58) C dX5_load_58 ⟨by omega, by omega⟩ ?_
          refine p_dup2 (pc := 59) C dX5_load_59 rfl rfl ?_
          refine p_iald (pc := 60) C dX5_load_60 ⟨by omega, by omega⟩ (by (repeat refine mg_n (by omega) ?_); first | assumption | exact mup_s _ _ _) (by omega) ?_
          refine p_iload_n (pc := 61) C dX5_load_61 rfl ?_
          refine p_iadd (pc := 62) C dX5_load_62 ⟨by omega, by omega⟩ ?_
          refine p_iast (pc := 63) C dX5_load_63 ⟨by omega, by omega⟩ (by (repeat refine mg_n (by omega) ?_); first | assumption | exact mup_s _ _ _) (by omega) ?_
          try refine p_mem (mup_mup _ _ _ _) ?_
          refine p_aload_n (pc := 64) C dX5_load_64 rfl ?_
          refine p_get (pc := 65) C fl_X5_34 dX5_load_65 ⟨by omega, by omega⟩ (by (repeat refine mg_n (by omega) ?_); first | assumption | exact mup_s _ _ _) (by rfl) ?_
          refine p_iconst (pc := 68) C dX5_load_68 (by decide) ?_
          refine p_iload_n (pc := 69) C dX5_load_69 rfl ?_
          refine p_imul (pc := 70) C dX5_load_70 ⟨by omega, by omega⟩ ?_
          refine p_iload_n (pc := 71) C dX5_load_71 rfl ?_
          refine p_iadd (pc := 72) C dX5_load_72 ⟨by omega, by omega⟩ ?_
          refine p_iald (pc := 73) C dX5_load_73 ⟨by omega, by omega⟩ (by (repeat refine mg_n (by omega) ?_); first | assumption | exact mup_s _ _ _) (by omega) ?_
          refine p_iret (pc := 74) C dX5_load_74 ?_
          first
            | (refine ⟨fun q hq => by (repeat (refine mg_n (by omega) ?_)); rfl, ?_⟩; rw [if_pos (by omega)]; exact ⟨rfl, hV⟩)
            | (refine ⟨fun q hq => by (repeat (refine mg_n (by omega) ?_)); rfl, ?_⟩; rw [if_neg (by omega), if_pos (by omega)]; exact ⟨rfl, hV⟩)
            | (refine ⟨fun q hq => by (repeat (refine mg_n (by omega) ?_)); rfl, ?_⟩; rw [if_neg (by omega), if_neg (by omega), if_pos (by omega)]; exact ⟨rfl, hV⟩)
            | (refine ⟨fun q hq => by (repeat (refine mg_n (by omega) ?_)); rfl, ?_⟩; rw [if_neg (by omega), if_neg (by omega), if_neg (by omega)]; exact ⟨sv (by rw [fup_s, qg]), (MV_51 hV h50 (by rw [← qg]; exact MR_act (S := (pt, ca, 0, 0, -9)) hMR (by omega)))⟩)
        · refine p_bipush (pc := 47) C dX5_load_47 (by decide) ?_
          refine p_iret (pc := 49) C dX5_load_49 ?_
          first
            | (refine ⟨fun q hq => by (repeat (refine mg_n (by omega) ?_)); rfl, ?_⟩; rw [if_pos (by omega)]; exact ⟨rfl, hV⟩)
            | (refine ⟨fun q hq => by (repeat (refine mg_n (by omega) ?_)); rfl, ?_⟩; rw [if_neg (by omega), if_pos (by omega)]; exact ⟨rfl, hV⟩)
            | (refine ⟨fun q hq => by (repeat (refine mg_n (by omega) ?_)); rfl, ?_⟩; rw [if_neg (by omega), if_neg (by omega), if_pos (by omega)]; exact ⟨rfl, hV⟩)
            | (refine ⟨fun q hq => by (repeat (refine mg_n (by omega) ?_)); rfl, ?_⟩; rw [if_neg (by omega), if_neg (by omega), if_neg (by omega)]; exact ⟨sv (by rw [fup_s, qg]), (MV_51 hV h50 (by rw [← qg]; exact MR_act (S := (pt, ca, 0, 0, -9)) hMR (by omega)))⟩)
      · refine p_bipush (pc := 27) C dX5_load_27 (by decide) ?_
        refine p_iret (pc := 29) C dX5_load_29 ?_
        first
          | (refine ⟨fun q hq => by (repeat (refine mg_n (by omega) ?_)); rfl, ?_⟩; rw [if_pos (by omega)]; exact ⟨rfl, hV⟩)
          | (refine ⟨fun q hq => by (repeat (refine mg_n (by omega) ?_)); rfl, ?_⟩; rw [if_neg (by omega), if_pos (by omega)]; exact ⟨rfl, hV⟩)
          | (refine ⟨fun q hq => by (repeat (refine mg_n (by omega) ?_)); rfl, ?_⟩; rw [if_neg (by omega), if_neg (by omega), if_pos (by omega)]; exact ⟨rfl, hV⟩)
          | (refine ⟨fun q hq => by (repeat (refine mg_n (by omega) ?_)); rfl, ?_⟩; rw [if_neg (by omega), if_neg (by omega), if_neg (by omega)]; exact ⟨sv (by rw [fup_s, qg]), (MV_51 hV h50 (by rw [← qg]; exact MR_act (S := (pt, ca, 0, 0, -9)) hMR (by omega)))⟩)
  · refine p_iconst (pc := 8) C dX5_load_8 (by decide) ?_
    refine p_iret (pc := 9) C dX5_load_9 ?_
    first
      | (refine ⟨fun q hq => by (repeat (refine mg_n (by omega) ?_)); rfl, ?_⟩; rw [if_pos (by omega)]; exact ⟨rfl, hV⟩)
      | (refine ⟨fun q hq => by (repeat (refine mg_n (by omega) ?_)); rfl, ?_⟩; rw [if_neg (by omega), if_pos (by omega)]; exact ⟨rfl, hV⟩)
      | (refine ⟨fun q hq => by (repeat (refine mg_n (by omega) ?_)); rfl, ?_⟩; rw [if_neg (by omega), if_neg (by omega), if_pos (by omega)]; exact ⟨rfl, hV⟩)
      | (refine ⟨fun q hq => by (repeat (refine mg_n (by omega) ?_)); rfl, ?_⟩; rw [if_neg (by omega), if_neg (by omega), if_neg (by omega)]; exact ⟨sv (by rw [fup_s, qg]), (MV_51 hV h50 (by rw [← qg]; exact MR_act (S := (pt, ca, 0, 0, -9)) hMR (by omega)))⟩)

set_option maxHeartbeats 4000000 in
set_option maxRecDepth 100000 in
theorem q_X5_off {K : KX} {d : Nat} {μ : Int → ME} {k g n : Int} {np ns day nr tr fl : Int} {rg kd nm sg pt : Int → Int} {ca : Int → Int → Int} {rs rp rl th la ln : Int → Int} {ce : Int → Int → Int} (hV : MV np ns day nr tr fl rg kd nm sg pt ca rs rp rl th la ln ce μ) (hW : WF np ns day nr tr fl rg kd nm sg pt ca rs rp rl th la ln ce) : Ct K (d + 2) yX5_off cX5_off 4 (some .int) [vR 42, vI k, vI g, vI n] μ (fun r μ' => (∀ a, a < 42 → μ' a = μ a) ∧ (if ¬ (0 ≤ k ∧ k < ns) then r = some (vI (-1)) ∧ MV np ns day nr tr fl rg kd nm sg pt ca rs rp rl th la ln ce μ' else if ¬ ((0 ≤ g ∧ g < 4) ∧ (1 ≤ n ∧ n ≤ 9)) then r = some (vI (-2)) ∧ MV np ns day nr tr fl rg kd nm sg pt ca rs rp rl th la ln ce μ' else if ca k g < n then r = some (vI (-3)) ∧ MV np ns day nr tr fl rg kd nm sg pt ca rs rp rl th la ln ce μ' else r = some (vI (ca k g - n)) ∧ MV np ns day nr tr fl rg kd nm sg pt (cup ca k (fup (ca k) g (ca k g - n))) rs rp rl th la ln ce μ')) := by
  refine Ct.of (by decide) (Nat.le_of_ble_eq_true rfl) (fun X C => ?_)
  obtain ⟨m42, m43, m44, m45, mB, mD, ⟨m52, m53, m54, m55, m56⟩, m57, m58, m59⟩ := id hV
  obtain ⟨m46, m47, m48, m49⟩ := id mB
  obtain ⟨at_, rP, rS, lp, lw, lf, sL, sF, h0⟩ := id m42
  obtain ⟨f43, h43, e43⟩ := id m43
  obtain ⟨f44, h44, e44⟩ := id m44
  obtain ⟨f45, h45, e45⟩ := id m45
  obtain ⟨f46, h46, e46⟩ := id m46
  obtain ⟨f47, h47, e47⟩ := id m47
  obtain ⟨f48, h48, e48⟩ := id m48
  obtain ⟨f49, h49, e49⟩ := id m49
  obtain ⟨pf, cf, h50, h51, hMR⟩ := id mD
  obtain ⟨f57, h57, e57⟩ := id m57
  obtain ⟨f58, h58, e58⟩ := id m58
  obtain ⟨f59, h59, e59⟩ := id m59
  obtain ⟨w0, w1, w2, w3, w4, w5, w6⟩ := id hW
  refine p_aload_n (pc := 0) C dX5_off_0 rfl ?_
  refine p_iload_n (pc := 1) C dX5_off_1 rfl ?_
  refine p_callVF (pc := 2) C ln_X5_127 dX5_off_2 (k_X5_isShip (by (repeat refine mg_n (by omega) ?_); first | assumption | exact mup_s _ _ _)) ⟨by omega, by omega⟩ (by (repeat refine mg_n (by omega) ?_); first | assumption | exact mup_s _ _ _) rfl rfl rfl rfl (Nat.le_of_ble_eq_true rfl) ?_
  refine p_ifne_b (pc := 5) (tgt := 10) C dX5_off_5 (by decide) (fun c_5 => ?_) (fun c_5 => ?_)
  · refine p_iload_n (pc := 10) C dX5_off_10 rfl ?_
    refine p_callSF (pc := 11) C ln_X5_148 dX5_off_11 (k_X5_isGood) rfl rfl (Nat.le_of_ble_eq_true rfl) ?_
    refine p_ifeq_b (pc := 14) (tgt := 27) C dX5_off_14 (by decide) (fun c_14 => ?_) (fun c_14 => ?_)
    · refine p_bipush (pc := 27) C dX5_off_27 (by decide) ?_
      refine p_iret (pc := 29) C dX5_off_29 ?_
      first
        | (refine ⟨fun q hq => by (repeat (refine mg_n (by omega) ?_)); rfl, ?_⟩; rw [if_pos (by omega)]; exact ⟨rfl, hV⟩)
        | (refine ⟨fun q hq => by (repeat (refine mg_n (by omega) ?_)); rfl, ?_⟩; rw [if_neg (by omega), if_pos (by omega)]; exact ⟨rfl, hV⟩)
        | (refine ⟨fun q hq => by (repeat (refine mg_n (by omega) ?_)); rfl, ?_⟩; rw [if_neg (by omega), if_neg (by omega), if_pos (by omega)]; exact ⟨rfl, hV⟩)
        | (refine ⟨fun q hq => by (repeat (refine mg_n (by omega) ?_)); rfl, ?_⟩; rw [if_neg (by omega), if_neg (by omega), if_neg (by omega)]; exact ⟨sv (by rw [fup_s, qg]), (MV_51 hV h50 (by rw [← qg]; exact MR_act (S := (pt, ca, 0, 0, -9)) hMR (by omega)))⟩)
    · refine p_iload_n (pc := 17) C dX5_off_17 rfl ?_
      refine p_iconst (pc := 18) C dX5_off_18 (by decide) ?_
      refine p_bipush (pc := 19) C dX5_off_19 (by decide) ?_
      refine p_callSF (pc := 21) C ln_X5_67 dX5_off_21 (k_X5_within) rfl rfl (Nat.le_of_ble_eq_true rfl) ?_
      refine p_ifne_b (pc := 24) (tgt := 30) C dX5_off_24 (by decide) (fun c_24 => ?_) (fun c_24 => ?_)
      · obtain ⟨n1, n2, n3⟩ := w3 k (by omega) (by omega)
        obtain ⟨x1, x2⟩ := w4 k (by omega) (by omega)
        obtain ⟨r1, r2⟩ := hMR k (by omega) (by omega)
        dsimp only at r1 r2
        have q7 := e47 k (by omega) (by omega)
        have q8 := e48 k (by omega) (by omega)
        have q9 := e49 k (by omega) (by omega)
        have hsl : ∀ g, 0 ≤ g → g < 4 → (fun g => cf (4 * k + g)) g = ca k g := fun g g0 g1 => r2 g g0 g1
        have hbs : bd4 (fun g => cf (4 * k + g)) 100 := bd4_c hsl (x2.le (by omega))
        have qg := r2 g (by omega) (by omega)
        have xg := x2.at (g := g) (by omega) (by omega)
        refine p_aload_n (pc := 30) C dX5_off_30 rfl ?_
        refine p_get (pc := 31) C fl_X5_34 dX5_off_31 ⟨by omega, by omega⟩ (by (repeat refine mg_n (by omega) ?_); first | assumption | exact mup_s _ _ _) (by rfl) ?_
        refine p_iconst (pc := 34) C dX5_off_34 (by decide) ?_
        refine p_iload_n (pc := 35) C dX5_off_35 rfl ?_
        refine p_imul (pc := 36) C dX5_off_36 ⟨by omega, by omega⟩ ?_
        refine p_iload_n (pc := 37) C dX5_off_37 rfl ?_
        refine p_iadd (pc := 38) C dX5_off_38 ⟨by omega, by omega⟩ ?_
        refine p_iald (pc := 39) C dX5_off_39 ⟨by omega, by omega⟩ (by (repeat refine mg_n (by omega) ?_); first | assumption | exact mup_s _ _ _) (by omega) ?_
        refine p_iload_n (pc := 40) C dX5_off_40 rfl ?_
        refine p_icmp_ge (pc := 41) (tgt := 47) C dX5_off_41 (by decide) (fun c_41 => ?_) (fun c_41 => ?_)
        · refine p_aload_n (pc := 47) C dX5_off_47 rfl ?_
          refine p_get (pc := 48) C fl_X5_34 dX5_off_48 ⟨by omega, by omega⟩ (by (repeat refine mg_n (by omega) ?_); first | assumption | exact mup_s _ _ _) (by rfl) ?_
          refine p_iconst (pc := 51) C dX5_off_51 (by decide) ?_
          refine p_iload_n (pc := 52) C dX5_off_52 rfl ?_
          refine p_imul (pc := 53) C dX5_off_53 ⟨by omega, by omega⟩ ?_
          refine p_iload_n (pc := 54) C dX5_off_54 rfl ?_
          refine p_iadd (pc := 55) C dX5_off_55 ⟨by omega, by omega⟩ ?_
          refine p_dup2 (pc := 56) C dX5_off_56 rfl rfl ?_
          refine p_iald (pc := 57) C dX5_off_57 ⟨by omega, by omega⟩ (by (repeat refine mg_n (by omega) ?_); first | assumption | exact mup_s _ _ _) (by omega) ?_
          refine p_iload_n (pc := 58) C dX5_off_58 rfl ?_
          refine p_isub (pc := 59) C dX5_off_59 ⟨by omega, by omega⟩ ?_
          refine p_iast (pc := 60) C dX5_off_60 ⟨by omega, by omega⟩ (by (repeat refine mg_n (by omega) ?_); first | assumption | exact mup_s _ _ _) (by omega) ?_
          try refine p_mem (mup_mup _ _ _ _) ?_
          refine p_aload_n (pc := 61) C dX5_off_61 rfl ?_
          refine p_get (pc := 62) C fl_X5_34 dX5_off_62 ⟨by omega, by omega⟩ (by (repeat refine mg_n (by omega) ?_); first | assumption | exact mup_s _ _ _) (by rfl) ?_
          refine p_iconst (pc := 65) C dX5_off_65 (by decide) ?_
          refine p_iload_n (pc := 66) C dX5_off_66 rfl ?_
          refine p_imul (pc := 67) C dX5_off_67 ⟨by omega, by omega⟩ ?_
          refine p_iload_n (pc := 68) C dX5_off_68 rfl ?_
          refine p_iadd (pc := 69) C dX5_off_69 ⟨by omega, by omega⟩ ?_
          refine p_iald (pc := 70) C dX5_off_70 ⟨by omega, by omega⟩ (by (repeat refine mg_n (by omega) ?_); first | assumption | exact mup_s _ _ _) (by omega) ?_
          refine p_iret (pc := 71) C dX5_off_71 ?_
          first
            | (refine ⟨fun q hq => by (repeat (refine mg_n (by omega) ?_)); rfl, ?_⟩; rw [if_pos (by omega)]; exact ⟨rfl, hV⟩)
            | (refine ⟨fun q hq => by (repeat (refine mg_n (by omega) ?_)); rfl, ?_⟩; rw [if_neg (by omega), if_pos (by omega)]; exact ⟨rfl, hV⟩)
            | (refine ⟨fun q hq => by (repeat (refine mg_n (by omega) ?_)); rfl, ?_⟩; rw [if_neg (by omega), if_neg (by omega), if_pos (by omega)]; exact ⟨rfl, hV⟩)
            | (refine ⟨fun q hq => by (repeat (refine mg_n (by omega) ?_)); rfl, ?_⟩; rw [if_neg (by omega), if_neg (by omega), if_neg (by omega)]; exact ⟨sv (by rw [fup_s, qg]), (MV_51 hV h50 (by rw [← qg]; exact MR_act (S := (pt, ca, 0, 0, -9)) hMR (by omega)))⟩)
        · refine p_bipush (pc := 44) C dX5_off_44 (by decide) ?_
          refine p_iret (pc := 46) C dX5_off_46 ?_
          first
            | (refine ⟨fun q hq => by (repeat (refine mg_n (by omega) ?_)); rfl, ?_⟩; rw [if_pos (by omega)]; exact ⟨rfl, hV⟩)
            | (refine ⟨fun q hq => by (repeat (refine mg_n (by omega) ?_)); rfl, ?_⟩; rw [if_neg (by omega), if_pos (by omega)]; exact ⟨rfl, hV⟩)
            | (refine ⟨fun q hq => by (repeat (refine mg_n (by omega) ?_)); rfl, ?_⟩; rw [if_neg (by omega), if_neg (by omega), if_pos (by omega)]; exact ⟨rfl, hV⟩)
            | (refine ⟨fun q hq => by (repeat (refine mg_n (by omega) ?_)); rfl, ?_⟩; rw [if_neg (by omega), if_neg (by omega), if_neg (by omega)]; exact ⟨sv (by rw [fup_s, qg]), (MV_51 hV h50 (by rw [← qg]; exact MR_act (S := (pt, ca, 0, 0, -9)) hMR (by omega)))⟩)
      · refine p_bipush (pc := 27) C dX5_off_27 (by decide) ?_
        refine p_iret (pc := 29) C dX5_off_29 ?_
        first
          | (refine ⟨fun q hq => by (repeat (refine mg_n (by omega) ?_)); rfl, ?_⟩; rw [if_pos (by omega)]; exact ⟨rfl, hV⟩)
          | (refine ⟨fun q hq => by (repeat (refine mg_n (by omega) ?_)); rfl, ?_⟩; rw [if_neg (by omega), if_pos (by omega)]; exact ⟨rfl, hV⟩)
          | (refine ⟨fun q hq => by (repeat (refine mg_n (by omega) ?_)); rfl, ?_⟩; rw [if_neg (by omega), if_neg (by omega), if_pos (by omega)]; exact ⟨rfl, hV⟩)
          | (refine ⟨fun q hq => by (repeat (refine mg_n (by omega) ?_)); rfl, ?_⟩; rw [if_neg (by omega), if_neg (by omega), if_neg (by omega)]; exact ⟨sv (by rw [fup_s, qg]), (MV_51 hV h50 (by rw [← qg]; exact MR_act (S := (pt, ca, 0, 0, -9)) hMR (by omega)))⟩)
  · refine p_iconst (pc := 8) C dX5_off_8 (by decide) ?_
    refine p_iret (pc := 9) C dX5_off_9 ?_
    first
      | (refine ⟨fun q hq => by (repeat (refine mg_n (by omega) ?_)); rfl, ?_⟩; rw [if_pos (by omega)]; exact ⟨rfl, hV⟩)
      | (refine ⟨fun q hq => by (repeat (refine mg_n (by omega) ?_)); rfl, ?_⟩; rw [if_neg (by omega), if_pos (by omega)]; exact ⟨rfl, hV⟩)
      | (refine ⟨fun q hq => by (repeat (refine mg_n (by omega) ?_)); rfl, ?_⟩; rw [if_neg (by omega), if_neg (by omega), if_pos (by omega)]; exact ⟨rfl, hV⟩)
      | (refine ⟨fun q hq => by (repeat (refine mg_n (by omega) ?_)); rfl, ?_⟩; rw [if_neg (by omega), if_neg (by omega), if_neg (by omega)]; exact ⟨sv (by rw [fup_s, qg]), (MV_51 hV h50 (by rw [← qg]; exact MR_act (S := (pt, ca, 0, 0, -9)) hMR (by omega)))⟩)

set_option maxHeartbeats 4000000 in
set_option maxRecDepth 100000 in
theorem q_X5_trace {K : KX} {d : Nat} {μ : Int → ME} {np ns day nr tr fl : Int} {rg kd nm sg pt : Int → Int} {ca : Int → Int → Int} {rs rp rl th la ln : Int → Int} {ce : Int → Int → Int} (hV : MV np ns day nr tr fl rg kd nm sg pt ca rs rp rl th la ln ce μ) (hW : WF np ns day nr tr fl rg kd nm sg pt ca rs rp rl th la ln ce) : Ct K (d) yX5_trace cX5_trace 1 (some .int) [vR 42] μ (fun r μ' => (∀ a, a < 42 → μ' a = μ a) ∧ (r = some (vI (tr)) ∧ MV np ns day nr tr fl rg kd nm sg pt ca rs rp rl th la ln ce μ')) := by
  refine Ct.of (by decide) (Nat.le_of_ble_eq_true rfl) (fun X C => ?_)
  obtain ⟨m42, m43, m44, m45, mB, mD, ⟨m52, m53, m54, m55, m56⟩, m57, m58, m59⟩ := id hV
  obtain ⟨m46, m47, m48, m49⟩ := id mB
  obtain ⟨at_, rP, rS, lp, lw, lf, sL, sF, h0⟩ := id m42
  obtain ⟨f43, h43, e43⟩ := id m43
  obtain ⟨f44, h44, e44⟩ := id m44
  obtain ⟨f45, h45, e45⟩ := id m45
  obtain ⟨f46, h46, e46⟩ := id m46
  obtain ⟨f47, h47, e47⟩ := id m47
  obtain ⟨f48, h48, e48⟩ := id m48
  obtain ⟨f49, h49, e49⟩ := id m49
  obtain ⟨pf, cf, h50, h51, hMR⟩ := id mD
  obtain ⟨f57, h57, e57⟩ := id m57
  obtain ⟨f58, h58, e58⟩ := id m58
  obtain ⟨f59, h59, e59⟩ := id m59
  obtain ⟨w0, w1, w2, w3, w4, w5, w6⟩ := id hW
  refine p_aload_n (pc := 0) C dX5_trace_0 rfl ?_
  refine p_get (pc := 1) C fl_X5_233 dX5_trace_1 ⟨by omega, by omega⟩ (by (repeat refine mg_n (by omega) ?_); first | assumption | exact mup_s _ _ _) (by rfl) ?_
  refine p_iret (pc := 4) C dX5_trace_4 ?_
  first
    | (refine ⟨fun q hq => by (repeat (refine mg_n (by omega) ?_)); rfl, ?_⟩; skip; exact ⟨rfl, hV⟩)

set_option maxHeartbeats 4000000 in
set_option maxRecDepth 100000 in
theorem q_X5_fault {K : KX} {d : Nat} {μ : Int → ME} {np ns day nr tr fl : Int} {rg kd nm sg pt : Int → Int} {ca : Int → Int → Int} {rs rp rl th la ln : Int → Int} {ce : Int → Int → Int} (hV : MV np ns day nr tr fl rg kd nm sg pt ca rs rp rl th la ln ce μ) (hW : WF np ns day nr tr fl rg kd nm sg pt ca rs rp rl th la ln ce) : Ct K (d) yX5_fault cX5_fault 1 (some .int) [vR 42] μ (fun r μ' => (∀ a, a < 42 → μ' a = μ a) ∧ (r = some (vI (fl)) ∧ MV np ns day nr tr fl rg kd nm sg pt ca rs rp rl th la ln ce μ')) := by
  refine Ct.of (by decide) (Nat.le_of_ble_eq_true rfl) (fun X C => ?_)
  obtain ⟨m42, m43, m44, m45, mB, mD, ⟨m52, m53, m54, m55, m56⟩, m57, m58, m59⟩ := id hV
  obtain ⟨m46, m47, m48, m49⟩ := id mB
  obtain ⟨at_, rP, rS, lp, lw, lf, sL, sF, h0⟩ := id m42
  obtain ⟨f43, h43, e43⟩ := id m43
  obtain ⟨f44, h44, e44⟩ := id m44
  obtain ⟨f45, h45, e45⟩ := id m45
  obtain ⟨f46, h46, e46⟩ := id m46
  obtain ⟨f47, h47, e47⟩ := id m47
  obtain ⟨f48, h48, e48⟩ := id m48
  obtain ⟨f49, h49, e49⟩ := id m49
  obtain ⟨pf, cf, h50, h51, hMR⟩ := id mD
  obtain ⟨f57, h57, e57⟩ := id m57
  obtain ⟨f58, h58, e58⟩ := id m58
  obtain ⟨f59, h59, e59⟩ := id m59
  obtain ⟨w0, w1, w2, w3, w4, w5, w6⟩ := id hW
  refine p_aload_n (pc := 0) C dX5_fault_0 rfl ?_
  refine p_get (pc := 1) C fl_X5_61 dX5_fault_1 ⟨by omega, by omega⟩ (by (repeat refine mg_n (by omega) ?_); first | assumption | exact mup_s _ _ _) (by rfl) ?_
  refine p_iret (pc := 4) C dX5_fault_4 ?_
  first
    | (refine ⟨fun q hq => by (repeat (refine mg_n (by omega) ?_)); rfl, ?_⟩; skip; exact ⟨rfl, hV⟩)

set_option maxHeartbeats 4000000 in
set_option maxRecDepth 100000 in
theorem q_X5_back {K : KX} {d : Nat} {μ : Int → ME} {k : Int} {np ns day nr tr fl : Int} {rg kd nm sg pt : Int → Int} {ca : Int → Int → Int} {rs rp rl th la ln : Int → Int} {ce : Int → Int → Int} (hV : MV np ns day nr tr fl rg kd nm sg pt ca rs rp rl th la ln ce μ) (hW : WF np ns day nr tr fl rg kd nm sg pt ca rs rp rl th la ln ce) : Ct K (d + 1) yX5_back cX5_back 2 (some .int) [vR 42, vI k] μ (fun r μ' => (∀ a, a < 42 → μ' a = μ a) ∧ (if ¬ (0 ≤ k ∧ k ≤ nr) then r = some (vI (-2)) ∧ MV np ns day nr tr fl rg kd nm sg pt ca rs rp rl th la ln ce μ' else r = some (vI (nr - k)) ∧ MV np ns day (nr - k) tr fl rg kd nm sg pt ca rs rp rl th la ln ce μ')) := by
  refine Ct.of (by decide) (Nat.le_of_ble_eq_true rfl) (fun X C => ?_)
  obtain ⟨m42, m43, m44, m45, mB, mD, ⟨m52, m53, m54, m55, m56⟩, m57, m58, m59⟩ := id hV
  obtain ⟨m46, m47, m48, m49⟩ := id mB
  obtain ⟨at_, rP, rS, lp, lw, lf, sL, sF, h0⟩ := id m42
  obtain ⟨f43, h43, e43⟩ := id m43
  obtain ⟨f44, h44, e44⟩ := id m44
  obtain ⟨f45, h45, e45⟩ := id m45
  obtain ⟨f46, h46, e46⟩ := id m46
  obtain ⟨f47, h47, e47⟩ := id m47
  obtain ⟨f48, h48, e48⟩ := id m48
  obtain ⟨f49, h49, e49⟩ := id m49
  obtain ⟨pf, cf, h50, h51, hMR⟩ := id mD
  obtain ⟨f57, h57, e57⟩ := id m57
  obtain ⟨f58, h58, e58⟩ := id m58
  obtain ⟨f59, h59, e59⟩ := id m59
  obtain ⟨w0, w1, w2, w3, w4, w5, w6⟩ := id hW
  refine p_iload_n (pc := 0) C dX5_back_0 rfl ?_
  refine p_iconst (pc := 1) C dX5_back_1 (by decide) ?_
  refine p_aload_n (pc := 2) C dX5_back_2 rfl ?_
  refine p_get (pc := 3) C fl_X5_110 dX5_back_3 ⟨by omega, by omega⟩ (by (repeat refine mg_n (by omega) ?_); first | assumption | exact mup_s _ _ _) (by rfl) ?_
  refine p_callSF (pc := 6) C ln_X5_67 dX5_back_6 (k_X5_within) rfl rfl (Nat.le_of_ble_eq_true rfl) ?_
  refine p_ifne_b (pc := 9) (tgt := 15) C dX5_back_9 (by decide) (fun c_9 => ?_) (fun c_9 => ?_)
  · refine p_aload_n (pc := 15) C dX5_back_15 rfl ?_
    refine p_dup (pc := 16) C dX5_back_16 rfl ?_
    refine p_get (pc := 17) C fl_X5_110 dX5_back_17 ⟨by omega, by omega⟩ (by (repeat refine mg_n (by omega) ?_); first | assumption | exact mup_s _ _ _) (by rfl) ?_
    refine p_iload_n (pc := 20) C dX5_back_20 rfl ?_
    refine p_isub (pc := 21) C dX5_back_21 ⟨by omega, by omega⟩ ?_
    refine p_putL (pc := 22) (fs' := [_, _, _, _, _, _, _, _, _, _, _, _, _, _, _, _, _, _, _, _, _, _, _, _, _, _, _, _, _, _, _]) C fp_X5_110 dX5_back_22 ⟨by omega, by omega⟩ (by (repeat refine mg_n (by omega) ?_); first | assumption | exact mup_s _ _ _) (by exact Nat.le_of_ble_eq_true rfl) (by rfl) ?_
    try refine p_mem (mup_mup _ _ _ _) ?_
    refine p_aload_n (pc := 25) C dX5_back_25 rfl ?_
    refine p_get (pc := 26) C fl_X5_110 dX5_back_26 ⟨by omega, by omega⟩ (by (repeat refine mg_n (by omega) ?_); first | assumption | exact mup_s _ _ _) (by rfl) ?_
    refine p_iret (pc := 29) C dX5_back_29 ?_
    first
      | (refine ⟨fun q hq => by (repeat (refine mg_n (by omega) ?_)); rfl, ?_⟩; rw [if_pos (by omega)]; exact ⟨rfl, hV⟩)
      | (refine ⟨fun q hq => by (repeat (refine mg_n (by omega) ?_)); rfl, ?_⟩; rw [if_neg (by omega)]; exact ⟨rfl, MV_42 hV (by omega)⟩)
  · refine p_bipush (pc := 12) C dX5_back_12 (by decide) ?_
    refine p_iret (pc := 14) C dX5_back_14 ?_
    first
      | (refine ⟨fun q hq => by (repeat (refine mg_n (by omega) ?_)); rfl, ?_⟩; rw [if_pos (by omega)]; exact ⟨rfl, hV⟩)
      | (refine ⟨fun q hq => by (repeat (refine mg_n (by omega) ?_)); rfl, ?_⟩; rw [if_neg (by omega)]; exact ⟨rfl, MV_42 hV (by omega)⟩)
