/-! ===== a call of a method that catches ===== -/
theorem g_MetH {Y : g_Y} {G : g_G} {J : g_I} {l : Launch} {Q' : g_R → g_Hp → Prop} {as : List g_AV} {h : g_Hp} {ρ : g_Rh} (M : g_Met l Y G J as h Q') (hE : ∀ E h', ¬ Q' (.inr E) h') : Met l J.2.1 (g_ws J) (g_rm J) (g_Pc Y G ρ as h) (g_Qc G ρ h Q') (g_rm J).cells (g_rm J).slots G.2.2.2 := by
  intro p e ha hc hk s m args below hf happ hp hK
  obtain ⟨n, o, a1, a2, a3, q⟩ := M ρ p e ha hc hk s m args below hf happ hp hK
  refine ⟨n, o, a1, a2, a3, ?_⟩
  rcases q with q | ⟨q, _, E, ce, L, ⟨⟨h', ρ', _, _, hq⟩, _⟩, _⟩
  · exact q
  · exact absurd hq (hE E h')
theorem g_GoodH {J : g_I} {own : String} {idx : Nat} (c1 : Cond.methodLink own idx J.2.1 ∈ g_WL) (c2 : Cond.initialized J.2.1.cls ∈ g_WL) (c3 : g_hd J ∈ g_WL) (hsta : Cond.static J.2.1 ∈ g_WL) : GoodIn g_WL (va_wsS own idx J.2.1 (g_ws J)) :=
  g_goodIn (fun w hw => (List.mem_append.mp hw).elim (fun q => (List.forall_mem_cons.mpr ⟨c1, List.forall_mem_cons.mpr ⟨hsta, List.forall_mem_cons.mpr ⟨c2, fun _ z => absurd z List.not_mem_nil⟩⟩⟩ : ∀ w ∈ ([Cond.methodLink own idx J.2.1, Cond.static J.2.1, Cond.initialized J.2.1.cls] : List Cond), w ∈ g_WL) w q) (fun q => (List.mem_cons.mp q).elim (fun e => e ▸ c3) id))
