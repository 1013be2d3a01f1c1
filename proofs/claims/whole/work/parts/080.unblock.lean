/-! unblock: class and model. -/
theorem rd_fault (G : Nat → Nat) (e lim : Nat) : ∀ (F j v : Nat) (V : Nat → Nat), (rd G e lim F j v V).1 ≤ 3 := by
  intro F
  induction F with
  | zero => intro j v V; rw [rd]; decide
  | succ F ih =>
    intro j v V
    rw [rd]
    repeat' split
    all_goals first | exact ih _ _ _ | (show (1 : Nat) ≤ 3; decide) | (show (2 : Nat) ≤ 3; decide) | (show (3 : Nat) ≤ 3; decide) | (show (0 : Nat) ≤ 3; decide)
/-- reading IN as a block behind HISTORY -/
def unb (G H : Nat → Nat) (kg kh most : Nat) : Rd := rd G kg (kh + most) 20001 0 kh H
theorem s_isMost {x : Int32} : f_T_isMost x = some (if x < 0 ∨ 8000 < x then 0 else 1) := by
  unfold f_T_isMost
  rw [j_T_isMost_0]
  by_cases a : x < 0
  · rw [if_pos a, if_pos (Or.inl a)]
  · rw [if_neg a]
    by_cases b : 8000 < x
    · rw [if_pos b, if_pos (Or.inr b)]
    · rw [if_neg b, if_neg (by intro z; rcases z with z | z; exact a z; exact b z)]
theorem t_unblockNo {N : Nat} {x xp gn un hsn tn b1 b2 b3 b4 b5 b6 : Int32} {gf uf hsf tf : Nat → Int32} (hx : x < 0 ∨ 8000 < x) : f_T_unblock N x xp gn gf un uf hsn hsf tn tf b1 b2 b3 b4 b5 b6 = some (-4, xp, un, uf, tn, tf, b1, b2, b3, b4, b5, b6) := by
  unfold f_T_unblock
  rw [j_T_unblock_0, bd1_of s_isMost, if_pos hx, if_pos rfl]
theorem To.start {H : Nat → Nat} {kh k st : Nat} {T : Nat → Nat} {tn : Int32} {tf : Nat → Int32} (h : Rw 8000 k tn tf T) (hst : st ≤ k) : To H kh st k T (kh + (k - st)) (virt H kh T st) tn tf := ⟨k, T, h, Nat.le_refl _, hst, by omega, fun _ _ => rfl, fun _ _ => rfl⟩
theorem t_unblock {N kg ku kh most : Nat} (hN : 20010 < N) (hm : most ≤ 8000) {xp gn un hsn tn b1 b2 b3 b4 b5 b6 : Int32} {gf uf hsf tf : Nat → Int32} {G U H : Nat → Nat} (hG : Rw 8000 kg gn gf G) (hU : Rw 8000 ku un uf U) (hH : Rw 8000 kh hsn hsf H) (hT : ∃ k B, Rw 8000 k tn tf B) : ∃ r un' uf' tn' tf' c1 c2 c3 c4 c5 c6, f_T_unblock N (nI most) xp gn gf un uf hsn hsf tn tf b1 b2 b3 b4 b5 b6 = some (r, nI (unb G H kg kh most).2.1, un', uf', tn', tf', c1, c2, c3, c4, c5, c6) ∧ (∃ k B, Rw 8000 k tn' tf' B) ∧ (((unb G H kg kh most).1 = 0 ∧ r = nI ((unb G H kg kh most).2.2.1 - kh) ∧ Rw 8000 ((unb G H kg kh most).2.2.1 - kh) un' uf' (fun j => (unb G H kg kh most).2.2.2 (kh + j))) ∨ ((unb G H kg kh most).1 ≠ 0 ∧ r = -nI (unb G H kg kh most).1 ∧ un' = un ∧ uf' = uf)) := by
  obtain ⟨kt, T, hT⟩ := hT
  obtain ⟨e1, hT0⟩ := s_cut0 hT
  have hk := hG.2.1
  have h0 : To H kh 0 0 T kh H 0 tf := (To.start hT0 (Nat.le_refl _)).congr (fun j hj => by unfold virt; rw [if_pos (by omega)])
  obtain ⟨at', bd', tn', tf', e2, h2, h3⟩ := read_loop (N := N) (by omega) hG hH (e := kg) (Nat.le_refl _) hm (lim := kh + most) (st := 0) (k0 := 0) rfl kg N 20001 0 0 kh H b5 b6 0 tf (by omega) (by omega) (by omega) (Nat.le_refl _) (Nat.zero_le _) (by omega) h0
  have e2 : f_BR_read N 0 (nI kg) 0 (nI most) b5 b6 gn gf hsn hsf 0 tf = some (nI (unb G H kg kh most).1, at', nI kg, 0, nI most, bd', nI (unb G H kg kh most).2.1, tn', tf') := e2
  have h2 : To H kh 0 0 T (unb G H kg kh most).2.2.1 (unb G H kg kh most).2.2.2 tn' tf' := h2
  have hf : (unb G H kg kh most).1 ≤ 3 := rd_fault _ _ _ _ _ _ _
  unfold f_T_unblock
  rw [j_T_unblock_0, bd1_of s_isMost, if_neg (show ¬ (nI most < 0 ∨ 8000 < nI most) from fun z => z.elim (nI_pos (by omega)) (nI_nlt (a := 8000) hm (by decide))), if_neg (by decide), bd1_of e1, bd1_of (s_count _), hG.1]
  rw [← hG.1, hG.1, bd9_of (by rw [← hG.1]; rw [hG.1] at e2 ⊢; exact e2), bd1_of (x1 := nI (unb G H kg kh most).2.1) rfl]
  generalize unb G H kg kh most = R at *
  obtain ⟨k2, T2, g1, g2, g3, g4, g5, g6⟩ := h2
  by_cases c : R.1 = 0
  · rw [if_pos (show nI R.1 = 0 from by rw [c]; rfl)]
    obtain ⟨f2, e4, h5⟩ := s_keep hU g1
    rw [bd3_of e4]
    refine ⟨_, _, _, _, _, _, _, _, _, _, _, rfl, ⟨_, _, g1⟩, Or.inl ⟨c, by congr 1; omega, ?_⟩⟩
    rw [show R.2.2.1 - kh = k2 from by omega]
    exact h5.congr (fun j hj => by rw [g5 (kh + j) (by omega)]; unfold virt; rw [if_neg (by omega)]; congr 1; omega)
  · rw [if_neg (show ¬ nI R.1 = 0 from nI_ne0 (by omega) (by omega))]
    exact ⟨_, _, _, _, _, _, _, _, _, _, _, rfl, ⟨_, _, g1⟩, Or.inr ⟨c, rfl, rfl, rfl⟩⟩
