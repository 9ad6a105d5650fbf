theorem of0 {p : Prop} {h : Decidable p} (c : (if p then (0 : Int32) else 1) = 0) : p := by
  by_cases q : p
  · exact q
  · rw [if_neg q] at c
    exact absurd c (by decide)
theorem of1 {p : Prop} {h : Decidable p} (c : ¬ (if p then (0 : Int32) else 1) = 0) : ¬ p := fun q => c (by rw [if_pos q])
theorem en_l {α : Al} {p b : Nat} (h0 : aI α 25 p = 0) (c : ¬ aI α 7 b ≤ aI α 0 35) : enterF α p b = loseF α p 1 7 (nI b) := by
  unfold enterF
  rw [if_neg c, qI_id h0]
theorem en_j {α : Al} {p b np : Nat} (h0 : aI α 25 p = 0) (hn : nn (aI α 0 26) = np) (c : aI α 7 b ≤ aI α 0 35) (c1 : ¬ aI α 4 b = 0) (c2 : ¬ Op.cmpValue (FP.dcmp (szF α (nI b) (nI p) np) (aD α 5 b)) .l ≤ 0) : enterF α p b = jamF α p b np := by
  unfold enterF
  rw [if_pos c, qI_id h0, hn, if_neg (fun z => z.elim c1 c2)]
theorem en_s {α : Al} {p b np nh : Nat} (h0 : aI α 25 p = 0) (hn : nn (aI α 0 26) = np) (h9 : nn (aI α 0 9) = nh) (c : aI α 7 b ≤ aI α 0 35) (c1 : aI α 4 b = 0 ∨ Op.cmpValue (FP.dcmp (szF α (nI b) (nI p) np) (aD α 5 b)) .l ≤ 0) : enterF α p b = passL (noteF (setF α p b) (nI p) 0 (nI b)) p nh := by
  unfold enterF
  rw [if_pos c, qI_id h0, hn, if_pos c1, h9]
theorem setF_I {α : Al} {p b k j : Nat} (h : ¬ (j = p ∧ (k = 25 ∨ k = 26 ∨ k = 27))) : aI (setF α p b) k j = aI α k j := by
  unfold setF
  rw [qI_I (fun q => h ⟨q.2, Or.inr (Or.inr q.1)⟩), qI_I (fun q => h ⟨q.2, Or.inr (Or.inl q.1)⟩), qI_I (fun q => h ⟨q.2, Or.inl q.1⟩)]
theorem note_tal {α : Al} {p : Nat} {v a b c : Int32} : noteF (qI α 25 p v) a b c = qI (noteF α a b c) 25 p v := by
  unfold noteF
  rw [show aI (qI α 25 p v) 0 36 = aI α 0 36 from rfl, show aI (qI α 25 p v) 0 35 = aI α 0 35 from rfl]
  split
  · exact qI_comm (by omega)
  · rw [qI_comm (k := 25) (k' := 29) (by omega), qI_comm (k := 25) (k' := 29) (by omega), qI_comm (k := 25) (k' := 29) (by omega), qI_comm (k := 25) (k' := 29) (by omega), qI_comm (k := 25) (k' := 0) (by omega)]
theorem Kx.nps {S : St} {α : Al} {nb nh nu nr nk np n : Nat} (h : Kx S α nb nh nu nr nk np n) : nn (aI α 0 26) = np ∧ nn (aI α 0 9) = nh ∧ nn (aI α 0 16) = nr ∧ nn (aI α 0 20) = nk := by
  obtain ⟨-, -, ⟨-, ⟨h2, g2⟩, -, ⟨h4, g4⟩, ⟨h5, g5⟩, ⟨h6, g6⟩, -⟩, -⟩ := h
  exact ⟨by rw [h6]; exact nn_nI (by omega), by rw [h2]; exact nn_nI (by omega), by rw [h4]; exact nn_nI (by omega), by rw [h5]; exact nn_nI (by omega)⟩
theorem kind_le {x : Int32} (h0 : ¬ x < 0) (h : x ≤ 0) : x = 0 := by
  rw [Int32.lt_iff_toInt_lt] at h0
  rw [Int32.le_iff_toInt_le] at h
  have e : (0 : Int32).toInt = 0 := rfl
  exact Int32.toInt_inj.mp (by omega)
def robPost (S : St) (α : Al) (p nb nu nk np : Nat) (r : Option Value) (S' : St) : Prop := match robF α p with
  | some h => r = some (.int 1) ∧ Sc S S' ∧ Cd S' (noteF α (nI p) 6 (nI h)) nb nu nk np
  | none => r = some (.int 0) ∧ S' = S
theorem robPost.y {S S' : St} {α : Al} {p nb nu nk np h : Nat} (e : robF α p = some h) (s : Sc S S') (d : Cd S' (noteF α (nI p) 6 (nI h)) nb nu nk np) : robPost S α p nb nu nk np (some (.int 1)) S' := by
  unfold robPost
  rw [e]
  exact ⟨rfl, s, d⟩
theorem robPost.n {S : St} {α : Al} {p nb nu nk np : Nat} (e : robF α p = none) : robPost S α p nb nu nk np (some (.int 0)) S := by
  unfold robPost
  rw [e]
  exact ⟨rfl, rfl⟩
theorem robPost.s {S S' : St} {α : Al} {p nb nu nk np h : Nat} {r : Option Value} (q : robPost S α p nb nu nk np r S') (e : robF α p = some h) : r = some (.int 1) ∧ Sc S S' ∧ Cd S' (noteF α (nI p) 6 (nI h)) nb nu nk np := by
  unfold robPost at q
  rw [e] at q
  exact q
theorem robPost.o {S S' : St} {α : Al} {p nb nu nk np : Nat} {r : Option Value} (q : robPost S α p nb nu nk np r S') (e : robF α p = none) : r = some (.int 0) ∧ S' = S := by
  unfold robPost at q
  rw [e] at q
  exact q
def pkF (α : Al) (h : Nat) : Al := qI (qI α 19 h (busyF (aI α 0 35) (aD α 17 h) (aD α 18 h) (aI α 20 h))) 20 h (aI α 20 h + 1)
def pickPost (S : St) (α : Al) (p nb nu nk np : Nat) (r : Option Value) (S' : St) : Prop := match pickF α p with
  | some h => r = some (.int 1) ∧ Sc S S' ∧ Cd S' (noteF (pkF α h) (nI p) 5 (nI h)) nb nu nk np
  | none => r = some (.int 0) ∧ S' = S
theorem pickPost.y {S S' : St} {α : Al} {p nb nu nk np h : Nat} (e : pickF α p = some h) (s : Sc S S') (d : Cd S' (noteF (pkF α h) (nI p) 5 (nI h)) nb nu nk np) : pickPost S α p nb nu nk np (some (.int 1)) S' := by
  unfold pickPost
  rw [e]
  exact ⟨rfl, s, d⟩
theorem pickPost.n {S : St} {α : Al} {p nb nu nk np : Nat} (e : pickF α p = none) : pickPost S α p nb nu nk np (some (.int 0)) S := by
  unfold pickPost
  rw [e]
  exact ⟨rfl, rfl⟩
theorem pickPost.s {S S' : St} {α : Al} {p nb nu nk np h : Nat} {r : Option Value} (q : pickPost S α p nb nu nk np r S') (e : pickF α p = some h) : r = some (.int 1) ∧ Sc S S' ∧ Cd S' (noteF (pkF α h) (nI p) 5 (nI h)) nb nu nk np := by
  unfold pickPost at q
  rw [e] at q
  exact q
theorem pickPost.o {S S' : St} {α : Al} {p nb nu nk np : Nat} {r : Option Value} (q : pickPost S α p nb nu nk np r S') (e : pickF α p = none) : r = some (.int 0) ∧ S' = S := by
  unfold pickPost at q
  rw [e] at q
  exact q
theorem Cd.lg {T : St} {β : Al} {nb nu nk np i : Nat} {t w x y a b : Int32} (h : Cd (logF T i t a w b) β nb nu nk np) (e1 : x = a) (e2 : y = b) : Cd (logF T i t x w y) β nb nu nk np := by rw [e1, e2]; exact h
