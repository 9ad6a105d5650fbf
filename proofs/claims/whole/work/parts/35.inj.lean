theorem Jg.inj {X : Cx} {k n : Nat} {S : St} {pc : Nat} {lv : List (Nat × Value)} {st : List Value} (h : (∀ x i i', i < sC S x → i' < sC S x → sA S x i = sA S x i' → i = i') → Jg X k n S pc lv st) : Jg X k n S pc lv st := by
  obtain ⟨p, l, e, R, s, m, args, below, meth, c, Q, D, E, sz, nL⟩ := X
  intro ls H locs hl hW hS
  obtain ⟨L, f, hR, hP, hD⟩ := id hW
  exact h (fun x i i' h1 h2 h3 => (hR.2.1 x i x i' h1 h2 h3).2) ls H locs hl hW hS
/-- the surroundings of a class's method in a run -/
def Kx (S : St) (α : Al) (nb nh nu nr nk np n : Nat) : Prop := Sh S ∧ Cs S α nb nh nu nr nk np ∧ Cf α nb nh nu nr nk np ∧ Cd S α nb nu nk np ∧ TT α n ∧ ∃ t, aI α 0 35 = nI t ∧ t ≤ 10000
theorem Kx.to {S T : St} {α β : Al} {nb nh nu nr nk np n n' : Nat} (h : Kx S α nb nh nu nr nk np n) (g : Sc S T) (s : Sm α β) (d : Cd T β nb nu nk np) (t : TT β n') (e : aI β 0 35 = aI α 0 35) : Kx T β nb nh nu nr nk np n' := ⟨h.1.sc g, h.2.1.sc g s, h.2.2.1.sm s, d, t, by rw [e]; exact h.2.2.2.2.2⟩
theorem Kx.tot {S : St} {α : Al} {nb nh nu nr nk np n : Nat} (h : Kx S α nb nh nu nr nk np n) : ∃ t, sI S 3 0 1 = nI t ∧ aI α 0 36 = nI t ∧ t ≤ n := by
  obtain ⟨t, h1, h2⟩ := h.2.2.2.2.1
  exact ⟨t, h.2.2.2.1.2.2.2.2.2.2.1.1.trans h1, h1, h2⟩
/-- one more event -/
theorem Kx.note {S : St} {α : Al} {nb nh nu nr nk np n p w h : Nat} (k : Kx S α nb nh nu nr nk np n) (hn : n < 2 ^ 30) (h2 : p < 64) (h3 : w < 16) (h4 : h < 64) : Kx (logF S 0 (sI S 9 0 16) (nI p) (nI w) (nI h)) (noteF α (nI p) (nI w) (nI h)) nb nh nu nr nk np (n + 1) := by
  obtain ⟨t, e1, e2, e3⟩ := k.tot
  obtain ⟨t', f1, f2⟩ := k.2.2.2.2.2
  exact k.to (Sc.rf.log) (Sm.rf.note) (k.2.2.2.1.note k.1 e2 (by omega) f1 f2 h2 h3 h4) (k.2.2.2.2.1.note) (noteF_I (by decide) (by omega))
