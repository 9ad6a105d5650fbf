theorem rob_lim {α : Al} {p : Nat} {v : Int32} : robF (qI α 25 p v) p = robF α p := rfl
theorem pick_lim {α : Al} {p : Nat} {v : Int32} : pickF (qI α 25 p v) p = pickF α p := rfl
theorem gap_lim {α : Al} {p a : Nat} {v : Int32} : gapF (qI α 25 p v) a = qI (gapF α a) 25 p v := by
  unfold gapF
  rw [show aI (qI α 25 p v) 32 a = aI α 32 a from rfl]
  split
  · rfl
  · rw [qI_comm (k := 25) (k' := 34) (by omega), qI_comm (k := 25) (k' := 35) (by omega)]
    rfl
theorem fill_lim {α : Al} {p k : Nat} : fillF (qI α 25 p 0) p k = fillF α p k := by
  unfold fillF loseF
  rw [qI_idem]
  rw [show qI (qD (qI α 25 p 0) 12 k (FP.dadd (aD (qI α 25 p 0) 12 k) (aD (qI α 25 p 0) 22 p))) 25 p 2 = qI (qD α 12 k (FP.dadd (aD α 12 k) (aD α 22 p))) 25 p 2 from qI_idem (α := qD α 12 k (FP.dadd (aD α 12 k) (aD α 22 p)))]
  rfl
theorem tR_lim {α : Al} {p r : Nat} : qI (noteF (qI α 25 p 0) (nI p) 6 (nI r)) 25 p 4 = takR α p r := by
  unfold takR
  rw [← note_tal, qI_idem]
theorem tP_lim {α : Al} {p h : Nat} : qI (noteF (pkF (qI α 25 p 0) h) (nI p) 5 (nI h)) 25 p 4 = takP α p h := by
  unfold takP pkF
  rw [← note_tal, qI_comm (k := 25) (k' := 19) (by omega), qI_comm (k := 25) (k' := 20) (by omega), qI_idem]
  rfl
theorem out_lim {α : Al} {p a b : Nat} (hb : aI α 26 p = nI b) : noteF (qI (qI (gapF (qI α 25 p 3) a) 32 a (aI α 32 a + 1)) 33 a (aI α 0 35)) (nI p) 4 (nI b) = outF α p a := by
  unfold outF
  rw [gap_lim, qI_comm (k := 25) (k' := 32) (by omega), qI_comm (k := 25) (k' := 33) (by omega), hb]
/-- a piece at its belt's end -/
def leaveF (α : Al) (p b : Nat) : Al := match takenF α p with
  | some γ => γ
  | none => goF α p (aI α 3 b)
theorem leave_r {α : Al} {p b r : Nat} (h : robF α p = some r) : leaveF α p b = takR α p r := by
  unfold leaveF takenF
  rw [h]
theorem leave_p {α : Al} {p b h0 : Nat} (h : robF α p = none) (h2 : pickF α p = some h0) : leaveF α p b = takP α p h0 := by
  unfold leaveF takenF
  rw [h]
  dsimp only
  rw [h2]
theorem leave_n {α : Al} {p b : Nat} (h : robF α p = none) (h2 : pickF α p = none) : leaveF α p b = goF α p (aI α 3 b) := by
  unfold leaveF takenF
  rw [h]
  dsimp only
  rw [h2]
theorem end_leave {β : Al} {p b : Nat} (hb : aI β 26 p = nI b) (hb6 : b < 6) (c : aI β 27 p = aI β 1 b) : endF β p = leaveF β p b := by
  unfold endF leaveF
  rw [hb, nn_nI (by omega), if_pos c]
  cases takenF β p <;> rfl
theorem go_e {α : Al} {p b t : Nat} (e : aI α 3 b = nI t) (h : t < 6) : goF α p (aI α 3 b) = enterF α p t := by
  unfold goF
  rw [e, if_neg (nI_pos (by omega)), nn_nI (by omega)]
theorem go_o {α : Al} {p b : Nat} (e : aI α 3 b = -1) : goF α p (aI α 3 b) = outF α p (atF α p) := by
  unfold goF
  rw [e, if_pos (by decide), if_pos rfl]
theorem go_f {α : Al} {p b k : Nat} (e : aI α 3 b = -2 - nI k) (h : k < 4) : goF α p (aI α 3 b) = fillF α p k := by
  unfold goF
  rw [e, if_pos (m2_n h), if_neg (m2_m h), m2_2 h, nn_nI (by omega)]
theorem at_eq {α : Al} {p b kd : Nat} (hb : aI α 26 p = nI b) (hk : aI α 21 p = nI kd) (h1 : b < 6) (h2 : kd < 5) : atF α p = 5 * b + kd := by
  unfold atF
  rw [hb, hk, nn_nI (by omega), nn_nI (by omega)]
/-- a piece comes on, or stands -/
theorem Cd.mvy {S : St} {α : Al} {nb nu nk np p : Nat} {v w : Int32} (d : Cd S α nb nu nk np) (hp : p < np) (h1 : aI α 25 p = 1) : Cd (pI (pI S 6 p 7 v) 6 p 6 (sI S 6 p 6 + 1)) (qI (qI α 28 p w) 27 p (aI α 27 p + 1)) nb nu nk np := by
  obtain ⟨d1, d2, d3, d4, d5, d6, d7, d8, d9, d10, d11⟩ := d
  refine ⟨d1, d2, d3, d4, fun j hj => ?_, d6, d7, d8, d9, d10, ct4 (α := α) (S := S) (fun _ => rfl) (fun _ _ => rfl) d11⟩
  obtain ⟨g1, g2⟩ := d5 j hj
  by_cases q : j = p
  · subst q
    obtain ⟨b, b1, b2, b3, b4⟩ := g1 h1
    refine ⟨fun _ => ⟨b, b1, b2, b3, ?_⟩, fun z => absurd h1 z⟩
    rw [pI_s, qI_s, b4]
  · rw [show sI (pI (pI S 6 p 7 v) 6 p 6 (sI S 6 p 6 + 1)) 6 j 6 = sI S 6 j 6 from by rw [pI_I (by omega), pI_I (by omega)], show aI (qI (qI α 28 p w) 27 p (aI α 27 p + 1)) 27 j = aI α 27 j from by rw [qI_I (by omega), qI_I (by omega)]]
    exact ⟨g1, g2⟩
theorem Cd.mvn {S : St} {α : Al} {nb nu nk np p : Nat} {v w : Int32} (d : Cd S α nb nu nk np) : Cd (pI S 6 p 7 v) (qI (qI α 28 p w) 27 p (aI α 27 p + 0)) nb nu nk np := by
  obtain ⟨d1, d2, d3, d4, d5, d6, d7, d8, d9, d10, d11⟩ := d
  rw [Int32.add_zero, show qI (qI α 28 p w) 27 p (aI α 27 p) = qI α 28 p w from qI_id rfl]
  exact ⟨d1, d2, d3, d4, d5, d6, d7, d8, d9, d10, ct4 (α := α) (S := S) (fun _ => rfl) (fun _ _ => rfl) d11⟩
theorem mv1_y {α : Al} {h b : Nat} (c1 : aI α 25 h = 1) (hb : aI α 26 h = nI b) (hb6 : b < 6) (c2 : ¬ aI α 0 35 ≤ aI α 7 b) : mv1 α h = qI (qI α 28 h 1) 27 h (aI α 27 h + 1) := by
  unfold mv1
  rw [hb, nn_nI (by omega), if_pos ⟨c1, c2⟩]
theorem mv1_n1 {α : Al} {h : Nat} (c1 : ¬ aI α 25 h = 1) : mv1 α h = qI (qI α 28 h 0) 27 h (aI α 27 h + 0) := by
  unfold mv1
  rw [if_neg (fun z => c1 z.1)]
theorem mv1_n2 {α : Al} {h b : Nat} (hb : aI α 26 h = nI b) (hb6 : b < 6) (c2 : aI α 0 35 ≤ aI α 7 b) : mv1 α h = qI (qI α 28 h 0) 27 h (aI α 27 h + 0) := by
  unfold mv1
  rw [hb, nn_nI (by omega), if_neg (fun z => z.2 c2)]
theorem act1_e {γ : Al} {h b : Nat} (c1 : aI γ 25 h = 0) (c2 : aI γ 23 h = aI γ 0 35) (hb : aI γ 24 h = nI b) (hb6 : b < 6) : act1 γ h = enterF γ h b := by
  unfold act1
  rw [if_pos ⟨c1, c2⟩, hb, nn_nI (by omega)]
theorem act1_s {γ : Al} {h : Nat} (c : ¬ aI γ 23 h = aI γ 0 35) (c2 : aI γ 28 h = 0) : act1 γ h = γ := by
  unfold act1
  rw [if_neg (fun z => c z.2), if_pos c2]
theorem act1_m {γ : Al} {h nh : Nat} (c : ¬ aI γ 23 h = aI γ 0 35) (c2 : ¬ aI γ 28 h = 0) (e9 : nn (aI γ 0 9) = nh) : act1 γ h = endF (passL γ h nh) h := by
  unfold act1
  rw [if_neg (fun z => c z.2), if_neg c2, e9]
