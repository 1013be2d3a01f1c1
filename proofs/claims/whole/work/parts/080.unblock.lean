/-! unblock: class and model. -/
theorem rd_fault (G : Nat → Nat) (e lim : Nat) : ∀ (F j v : Nat) (V : Nat → Nat), (rd G e lim F j v V).1 ≤ 3 := by
  intro F
  induction F with
  | zero => intro j v V; rw [rd]; show (1 : Nat) ≤ 3; decide
  | succ F ih =>
    intro j v V
    rw [rd]
    repeat' split
    all_goals first | exact ih _ _ _ | (show (1 : Nat) ≤ 3; decide) | (show (2 : Nat) ≤ 3; decide) | (show (3 : Nat) ≤ 3; decide) | (show (0 : Nat) ≤ 3; decide)
/-- reading IN as a block behind HISTORY -/
def unb (G H : Nat → Nat) (kg kh most : Nat) : Rd := rd G kg (kh + most) 20001 0 kh H
theorem s_isMost {x : Int32} : f_T_isMost x = some (if x < 0 ∨ 8000 < x then 0 else 1) := by
  unfold f_T_isMost
  rw [j_T_isMost_0]
  by_cases a : x < 0
  · rw [if_pos a, if_pos (Or.inl a)]
  · rw [if_neg a]
    by_cases b : 8000 < x
    · rw [if_pos b, if_pos (Or.inr b)]
    · rw [if_neg b, if_neg (by intro z; rcases z with z | z; exact a z; exact b z)]
theorem t_unblockNo {N : Nat} {x xp gn un hsn tn b1 b2 b3 b4 b5 b6 : Int32} {gf uf hsf tf : Nat → Int32} (hx : x < 0 ∨ 8000 < x) : f_T_unblock N x xp gn gf un uf hsn hsf tn tf b1 b2 b3 b4 b5 b6 = some (-4, xp, un, uf, tn, tf, b1, b2, b3, b4, b5, b6) := by
  unfold f_T_unblock
  rw [j_T_unblock_0, bd1_of s_isMost, if_pos hx, if_pos rfl]
theorem s_where (x : Int32) : f_BR_where x = some x := rfl
theorem To.start {H : Nat → Nat} {kh k st : Nat} {T : Nat → Nat} {tn : Int32} {tf : Nat → Int32} (h : Rw 8000 k tn tf T) (hst : st ≤ k) : To H kh st k T (kh + (k - st)) (virt H kh T st) tn tf := ⟨k, T, h, Nat.le_refl _, hst, by omega, fun _ _ => rfl, fun _ _ => rfl⟩
theorem t_unblock {N kg ku kh most : Nat} (hN : 20010 < N) (hm : most ≤ 8000) {xp gn un hsn tn b1 b2 b3 b4 b5 b6 : Int32} {gf uf hsf tf : Nat → Int32} {G U H : Nat → Nat} (hG : Rw 8000 kg gn gf G) (hU : Rw 8000 ku un uf U) (hH : Rw 8000 kh hsn hsf H) (hT : ∃ k B, Rw 8000 k tn tf B) : ∃ r un' uf' tn' tf' c1 c2 c3 c4 c5 c6, f_T_unblock N (nI most) xp gn gf un uf hsn hsf tn tf b1 b2 b3 b4 b5 b6 = some (r, nI (unb G H kg kh most).2.1, un', uf', tn', tf', c1, c2, c3, c4, c5, c6) ∧ (∃ k B, Rw 8000 k tn' tf' B) ∧ (((unb G H kg kh most).1 = 0 ∧ r = nI ((unb G H kg kh most).2.2.1 - kh) ∧ Rw 8000 ((unb G H kg kh most).2.2.1 - kh) un' uf' (fun j => (unb G H kg kh most).2.2.2 (kh + j))) ∨ ((unb G H kg kh most).1 ≠ 0 ∧ r = -nI (unb G H kg kh most).1 ∧ un' = un ∧ uf' = uf)) := by
  obtain ⟨kt, T, hT⟩ := hT
  obtain ⟨e1, hT0⟩ := s_cut0 hT
  have hk := hG.2.1
  have h0 : To H kh 0 0 T kh H 0 tf := (To.start hT0 (Nat.le_refl _)).congr (fun j hj => by unfold virt; rw [if_pos (by omega)])
  obtain ⟨at', bd', tn', tf', e2, h2, h3⟩ := read_loop (N := N) (by omega) hG hH (e := kg) (Nat.le_refl _) hm (lim := kh + most) (st := 0) (k0 := 0) rfl kg N 20001 0 0 kh H b5 b6 0 tf (by omega) (by omega) (by omega) (Nat.le_refl _) (Nat.zero_le _) (by omega) h0
  have e2 : f_BR_read N 0 (nI kg) 0 (nI most) b5 b6 gn gf hsn hsf 0 tf = some (nI (unb G H kg kh most).1, at', nI kg, 0, nI most, bd', nI (unb G H kg kh most).2.1, tn', tf') := e2
  have h2 : To H kh 0 0 T (unb G H kg kh most).2.2.1 (unb G H kg kh most).2.2.2 tn' tf' := h2
  have hf : (unb G H kg kh most).1 ≤ 3 := rd_fault _ _ _ _ _ _ _
  unfold f_T_unblock
  rw [j_T_unblock_0, bd1_of s_isMost, if_neg (show ¬ (nI most < 0 ∨ 8000 < nI most) from fun z => z.elim (nI_pos (by omega)) (nI_nlt (a := 8000) hm (by decide))), if_neg (by decide), bd1_of e1, bd1_of (s_count _), hG.1]
  rw [← hG.1, hG.1, bd9_of (by rw [← hG.1]; rw [hG.1] at e2 ⊢; exact e2), bd1_of (s_where _)]
  generalize unb G H kg kh most = R at *
  obtain ⟨k2, T2, g1, g2, g3, g4, g5, g6⟩ := h2
  by_cases c : R.1 = 0
  · rw [if_pos (show nI R.1 = 0 from by rw [c]; rfl)]
    obtain ⟨f2, e4, h5⟩ := s_keep hU g1
    rw [bd3_of e4]
    refine ⟨_, _, _, _, _, _, _, _, _, _, _, rfl, ⟨_, _, g1⟩, Or.inl ⟨c, by congr 1; omega, ?_⟩⟩
    rw [show R.2.2.1 - kh = k2 from by omega]
    exact h5.congr (fun j hj => by rw [g5 (kh + j) (by omega)]; unfold virt; rw [if_neg (by omega)]; congr 1; omega)
  · rw [if_neg (show ¬ nI R.1 = 0 from nI_ne0 (by omega) (by omega))]
    exact ⟨_, _, _, _, _, _, _, _, _, _, _, rfl, ⟨_, _, g1⟩, Or.inr ⟨c, rfl, rfl, rfl⟩⟩
theorem m_readBlock {N kg b0 most a : Nat} {win wpl wnu : Int32} {wif f : Nat → Int32} {G V : Nat → Nat} (hN : 20010 < N) (hG : Mw kg win wif G) {e v : Nat} (hae : a ≤ e) (he : e ≤ kg) (hb : b0 ≤ 8000 + 8000) (hl : b0 + most ≤ 16000) (hM : Ma 16000 b0 f V) : ∃ wat' wnu' f', f_Mo_readBlock N (nI a) (nI e) (nI most) wpl (nI b0) wnu wif f = some (nI (rd G e (b0 + most) 20001 a b0 V).1, nI (rd G e (b0 + most) 20001 a b0 V).2.1, nI (rd G e (b0 + most) 20001 a b0 V).2.2.1, wat', wnu', f') ∧ Ma 16000 (rd G e (b0 + most) 20001 a b0 V).2.2.1 f' (rd G e (b0 + most) 20001 a b0 V).2.2.2 ∧ b0 ≤ (rd G e (b0 + most) 20001 a b0 V).2.2.1 ∧ (rd G e (b0 + most) 20001 a b0 V).2.2.1 ≤ b0 + most := by
  have hk := hG.2.1
  exact mread_loop (by omega) hG.2.2 hk he rfl hl (e - a) N 20001 a b0 V wpl wnu f (Nat.le_refl _) (by omega) (by omega) hae (Nat.le_refl _) (by omega) hM
theorem m_unblockNo {N : Nat} {x win won whn wpl wbn wat wnu : Int32} {wif wof whf wbf : Nat → Int32} (hx : x < 0 ∨ 8000 < x) : f_Mo_unblock N x win won whn wpl wbn wat wnu wif wof whf wbf = some (-4, won, wpl, wbn, wat, wnu, wof, wbf) := by
  unfold f_Mo_unblock
  rw [j_Mo_unblock_0]
  by_cases a : x < 0
  · rw [if_pos a]
  · rw [if_neg a, if_neg (fun z => by
      have h1 := Int32.lt_iff_toInt_lt.mp (hx.resolve_left a)
      have h2 := Int32.le_iff_toInt_le.mp z
      omega)]
theorem m_unblock {N kg ku kh most : Nat} (hN : 20010 < N) (hm : most ≤ 8000) {win won whn wpl wbn wat wnu : Int32} {wif wof whf wbf : Nat → Int32} {G U H : Nat → Nat} (hG : Mw kg win wif G) (hU : Mw ku won wof U) (hH : Mw kh whn whf H) : ∃ r won' wbn' wat' wnu' wof' wbf', f_Mo_unblock N (nI most) win won whn wpl wbn wat wnu wif wof whf wbf = some (r, won', nI (unb G H kg kh most).2.1, wbn', wat', wnu', wof', wbf') ∧ (((unb G H kg kh most).1 = 0 ∧ r = nI ((unb G H kg kh most).2.2.1 - kh) ∧ Mw ((unb G H kg kh most).2.2.1 - kh) won' wof' (fun j => (unb G H kg kh most).2.2.2 (kh + j))) ∨ ((unb G H kg kh most).1 ≠ 0 ∧ r = -nI (unb G H kg kh most).1 ∧ won' = won ∧ wof' = wof)) := by
  have hkh := hH.2.1
  obtain ⟨f1, e1, h1⟩ := m_beginBack (N := N) (by omega) hH wbf
  obtain ⟨wat', wnu', f2, e2, h2, h3, h4⟩ := m_readBlock (N := N) (a := 0) (most := most) (wpl := wpl) (wnu := wnu) (v := 0) hN hG (e := kg) (Nat.zero_le _) (Nat.le_refl _) (by omega) (by omega) h1
  have e2 : f_Mo_readBlock N 0 win (nI most) wpl (nI kh) wnu wif f1 = some (nI (unb G H kg kh most).1, nI (unb G H kg kh most).2.1, nI (unb G H kg kh most).2.2.1, wat', wnu', f2) := by rw [hG.1]; exact e2
  have h2 : Ma 16000 (unb G H kg kh most).2.2.1 f2 (unb G H kg kh most).2.2.2 := h2
  have h3 : kh ≤ (unb G H kg kh most).2.2.1 := h3
  have h4 : (unb G H kg kh most).2.2.1 ≤ kh + most := h4
  have hf : (unb G H kg kh most).1 ≤ 3 := rd_fault _ _ _ _ _ _ _
  unfold f_Mo_unblock
  rw [j_Mo_unblock_0, if_neg (nI_pos (by omega)), if_pos (show nI most ≤ 8000 from nI_le (b := 8000) hm (by decide)), bd2_of e1, bd6_of e2]
  generalize unb G H kg kh most = R at *
  by_cases c : R.1 = 0
  · rw [if_pos (show nI R.1 ≤ 0 from by rw [c]; decide), hH.1, pk_sub h3]
    refine ⟨_, _, _, _, _, _, _, cp_loop (b_Mo_unblock_51 (nI (R.2.2.1 - kh)) (nI kh) (nI R.2.1) (nI R.2.2.1) wat' wnu' f2) (fun i => f2 (kh + i)) (R.2.2.1 - kh) (fun F => (nI (R.2.2.1 - kh), nI (R.2.2.1 - kh), nI R.2.1, nI R.2.2.1, wat', wnu', F, f2)) (fun kh1 F => by rw [b_Mo_unblock_51, if_pos (nI_le (Nat.le_refl _) (by omega))]) (fun kh1 F i hi => by
      rw [b_Mo_unblock_51, if_neg (nI_ge hi (by omega)), nI_add, as_of (vp_in_nI (by omega) (by decide)), as_of (vp_in_nI (by omega) (by decide)), nI_clamp (by omega), nI_clamp (by omega), nI_1]) N 0 wof (Nat.zero_le _) (by omega), Or.inl ⟨c, rfl, rfl, by omega, fun j hj => ?_⟩⟩
    rw [fillF_in (Nat.zero_le _) hj]
    exact h2.2.2 (kh + j) (by omega)
  · rw [if_neg (show ¬ nI R.1 ≤ 0 from nI_nle (by omega) (by omega))]
    exact ⟨_, _, _, _, _, _, _, rfl, Or.inr ⟨c, rfl, rfl, rfl⟩⟩
