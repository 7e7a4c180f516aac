/-- a weaker end -/
theorem MetQ {l : Launch} {y : MethodName} {ws : List Cond} {rm : Room} {Pc : Array Value → State → Prop} {Qc Qc' : Array Value → State → Outcome → State → Prop} {mc ms : Nat} {free : Addr → Prop} (h : Met l y ws rm Pc Qc mc ms free) (hq : ∀ a s o t, Qc a s o t → Qc' a s o t) : Met l y ws rm Pc Qc' mc ms free := by
  intro p e ha hc hk s m args below hf happ hP hK
  obtain ⟨n, o, h1, h2, h3, h4⟩ := h p e ha hc hk s m args below hf happ hP hK
  exact ⟨n, o, h1, h2, h3, hq _ _ _ _ h4.1, h4.2⟩
theorem aQc_imp {G : aG} {A : Nat → Prop} {ρ : List Nat} {Q Q' : aQ} (h : ∀ r S', Q r S' → Q' r S') : ∀ (kd : Nat) (a : Array Value) (s : State) (o : Outcome) (t : State), aQc G A ρ Q kd a s o t → aQc G A ρ Q' kd a s o t
  | 0, a, s, o, t, ⟨⟨u, h1, h2, h3⟩, h4⟩ => ⟨⟨u, h1, ⟨h _ _ h2.1, h2.2⟩, h3⟩, h4⟩
  | 1, a, s, o, t, ⟨⟨r, u, h1, h2, h3⟩, h4⟩ => ⟨⟨r, u, h1, ⟨h _ _ h2.1, h2.2⟩, h3⟩, h4⟩
  | n + 2, a, s, o, t, ⟨⟨r, u, h1, h2, h3⟩, h4⟩ => ⟨⟨r, u, h1, ⟨h _ _ h2.1, h2.2⟩, h3⟩, h4⟩
theorem Run.imp {d mc ms : Nat} {mi : aM} {av : List Value} {S : aS} {Q Q' : aQ} (h : Run d mc ms mi av S Q) (hq : ∀ r S', Q r S' → Q' r S') : Run d mc ms mi av S Q' :=
  fun l G ρ sz => MetQ (h l G ρ sz) (aQc_imp hq _)
