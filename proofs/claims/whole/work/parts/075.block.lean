/-! block: class and model. -/
theorem s_fill {N : Nat} (hN : 20000 < N) (la : Nat → Int32) : ∃ la', f_Arr_fill N 4096 (-1) la = some la' ∧ ∀ j, j < 4096 → la' j = -1 := by
  refine ⟨fillF la 0 4096 (fun _ => -1), ?_, fun j hj => fillF_in (Nat.zero_le _) hj⟩
  exact cp_loop (b_Arr_fill_5 4096 (-1) (Int32.ofNat 4096)) (fun _ => -1) 4096 (fun F => F) (fun kh F => by rw [b_Arr_fill_5, if_pos (show Int32.ofNat 4096 ≤ nI 4096 from nI_le (Nat.le_refl _) (by decide))]) (fun kh F i hi => by
    rw [b_Arr_fill_5, if_neg (show ¬ Int32.ofNat 4096 ≤ nI i from nI_ge hi (by decide)), as_of (vp_in_nI hi (by decide)), nI_clamp (by omega), nI_1]) N 0 la (Nat.zero_le _) (by omega)
theorem s_startOver {N kd kh : Nat} (hN : 20000 < N) {dn hsn : Int32} {df hsf : Nat → Int32} {D H : Nat → Nat} (hD : Rw 16000 kd dn df D) (hH : Rw 8000 kh hsn hsf H) (la : Nat → Int32) : ∃ df' la', f_BW_startOver N dn df la hsn hsf = some (0, nI kh, df', la') ∧ Rw 16000 kh (nI kh) df' H ∧ ∀ ea, ChOK H kh 0 la' ea := by
  obtain ⟨df', e1, h1⟩ := s_become hD hH (by have := hH.2.1; omega)
  obtain ⟨la', e2, h2⟩ := s_fill hN la
  refine ⟨df', la', ?_, h1, fun ea => ⟨⟨fun s hs => by rw [h2 s hs, lastq_0], fun q hq => by omega⟩, Or.inl rfl⟩⟩
  have e3 : f_Mat_startOver N dn df la hsn hsf = some (0, nI kh, df', la') := by
    unfold f_Mat_startOver
    rw [j_Mat_startOver_0, bd2_of e1, bd1_of e2]
  unfold f_BW_startOver
  rw [j_BW_startOver_0, bd4_of e3]
theorem s_keep {ku k : Nat} {un tn : Int32} {uf tf : Nat → Int32} {U T : Nat → Nat} (hU : Rw 8000 ku un uf U) (hT : Rw 8000 k tn tf T) : ∃ f', f_T_keepDraft un uf tn tf = some (nI k, nI k, f') ∧ Rw 8000 k (nI k) f' T := by
  obtain ⟨f', e1, h1⟩ := s_become hU hT hT.2.1
  refine ⟨f', ?_, h1⟩
  unfold f_T_keepDraft
  rw [j_T_keepDraft_0, bd2_of e1, bd1_of (s_count _)]
theorem s_isWay {x : Int32} : f_T_isWay x = some (if x < 0 ∨ 3 < x then 0 else 1) := by
  unfold f_T_isWay
  rw [j_T_isWay_0]
  by_cases a : x < 0
  · rw [if_pos a, if_pos (Or.inl a)]
  · rw [if_neg a]
    by_cases b : 3 < x
    · rw [if_pos b, if_pos (Or.inr b)]
    · rw [if_neg b, if_neg (by intro z; rcases z with z | z; exact a z; exact b z)]
/-- weak facts of the class's rows that are used again -/
def Wk (tn : Int32) (tf : Nat → Int32) (dn : Int32) (df : Nat → Int32) : Prop := (∃ k B, Rw 8000 k tn tf B) ∧ ∃ k B, Rw 16000 k dn df B
theorem t_blockNo {N : Nat} {x gn un hsn tn mc ms ml dn : Int32} {gf uf hsf tf df laf eaf : Nat → Int32} (hx : x < 0 ∨ 3 < x) : f_T_block N x gn gf un uf hsn hsf tn tf mc ms ml dn df laf eaf = some (-1, un, uf, tn, tf, mc, ms, ml, dn, df, laf, eaf) := by
  unfold f_T_block
  rw [j_T_block_0, bd1_of s_isWay, if_pos hx, if_pos rfl]
theorem t_block {N kg ku kh way : Nat} (hN : 20010 < N) (hw : way ≤ 3) {gn un hsn tn mc ms ml dn : Int32} {gf uf hsf tf df laf eaf : Nat → Int32} {G U H : Nat → Nat} (hG : Rw 8000 kg gn gf G) (hU : Rw 8000 ku un uf U) (hH : Rw 8000 kh hsn hsf H) (hk : Wk tn tf dn df) : ∃ r un' uf' tn' tf' mc' ms' ml' dn' df' laf' eaf', f_T_block N (nI way) gn gf un uf hsn hsf tn tf mc ms ml dn df laf eaf = some (r, un', uf', tn', tf', mc', ms', ml', dn', df', laf', eaf') ∧ Wk tn' tf' dn' df' ∧ (((blockOf (catB H kh G 0) kh (kh + kg) way).1 ≤ 8000 ∧ r = nI (blockOf (catB H kh G 0) kh (kh + kg) way).1 ∧ Rw 8000 (blockOf (catB H kh G 0) kh (kh + kg) way).1 un' uf' (blockOf (catB H kh G 0) kh (kh + kg) way).2) ∨ (8000 < (blockOf (catB H kh G 0) kh (kh + kg) way).1 ∧ r = -1 ∧ un' = un ∧ uf' = uf)) := by
  obtain ⟨⟨kt, T, hT⟩, kd, D, hD⟩ := hk
  have hg8 := hG.2.1
  have hh8 := hH.2.1
  obtain ⟨e1, hT0⟩ := s_cut0 hT
  obtain ⟨df', la', e2, hD', hC⟩ := s_startOver (N := N) (by omega) hD hH laf
  obtain ⟨df2, hD2, c', ms', ml', la2, ea2, hC2, hout⟩ := s_pack (N := N) (ms := ms) (ml := ml) hN hw hD' hG (a := 0) (b := kg) (Nat.zero_le _) (Nat.le_refl _) (by omega) hT0 (hC eaf) (Nat.zero_le _)
  rw [Nat.sub_zero] at hD2 hout
  unfold f_T_block
  rw [j_T_block_0, bd1_of s_isWay, if_neg (show ¬ (nI way < 0 ∨ 3 < nI way) from fun z => z.elim (nI_pos (by omega)) (nI_nlt (a := 3) hw (by decide))), if_neg (by decide), bd1_of e1, bd4_of e2, bd1_of (s_count _)]
  rcases hout with ⟨h1, f', e3, h2⟩ | ⟨h1, k', n', f', B', e3, h2⟩
  · have e3 : f_BW_pack N 0 gn (nI way) 0 ms ml (nI kh) df' la' eaf gn gf 0 tf = some (1, nI c', ms', ml', nI (kh + kg), df2, la2, ea2, nI (blockOf (catB H kh G 0) kh (kh + kg) way).1, f') := by rw [hG.1] at e3 ⊢; exact e3
    obtain ⟨f2, e4, h3⟩ := s_keep hU h2
    rw [bd10_of e3, if_neg (by decide), bd3_of e4]
    exact ⟨_, _, _, _, _, _, _, _, _, _, _, _, rfl, ⟨⟨_, _, h2⟩, _, _, hD2⟩, Or.inl ⟨h1, rfl, h3⟩⟩
  · have e3 : f_BW_pack N 0 gn (nI way) 0 ms ml (nI kh) df' la' eaf gn gf 0 tf = some (0, nI c', ms', ml', nI (kh + kg), df2, la2, ea2, n', f') := by rw [hG.1] at e3 ⊢; exact e3
    rw [bd10_of e3, if_pos rfl]
    exact ⟨_, _, _, _, _, _, _, _, _, _, _, _, rfl, ⟨⟨_, _, h2⟩, _, _, hD2⟩, Or.inr ⟨h1, rfl, rfl, rfl⟩⟩
theorem m_blockNo {N : Nat} {x win won whn wdn wfo wpn : Int32} {wif wof whf wdf wpf : Nat → Int32} (hx : x < 0 ∨ 3 < x) : f_Mo_block N x win won whn wdn wfo wpn wif wof whf wdf wpf = some (-1, won, wdn, wfo, wpn, wof, wdf, wpf) := by
  unfold f_Mo_block
  rw [j_Mo_block_0]
  by_cases a : x < 0
  · rw [if_pos a]
  · rw [if_neg a, if_neg (fun z => by
      have h1 := Int32.lt_iff_toInt_lt.mp (hx.resolve_left a)
      have h2 := Int32.le_iff_toInt_le.mp z
      omega)]
theorem blk_ct (D : Nat → Nat) (k way : Nat) (hk : k ≤ 16000) : ∀ (F a p : Nat) (s : Sq), a ≤ p → p ≤ k → s.1 ≤ 3 * a → (blk D k way F a p s).1 ≤ 3 * k + 20000 := by
  intro F
  induction F with
  | zero => intro a p s h1 h2 h3; rw [blk]; omega
  | succ F ih =>
    intro a p s h1 h2 h3
    obtain ⟨v1, v2, v3⟩ := lookN_inv D k p way
    rw [blk_s]
    by_cases c : k < p + 12
    · rw [if_pos c]; have := litS_ct D a k 0 s; omega
    · rw [if_neg c]
      by_cases l0 : lookN D k p way = 0
      · rw [if_pos l0]; exact ih a (p + 1) s (by omega) (by omega) h3
      · rw [if_neg l0]
        have c1 := cpyS_ct (p - (rawN D k p way).2) (lookN D k p way - 4) (litS D a p (lookN D k p way - 4) s)
        have c2 := litS_ct D a p (lookN D k p way - 4) s
        exact ih _ _ _ (Nat.le_refl _) (by omega) (by omega)
theorem block_ct (D : Nat → Nat) {h k : Nat} (way : Nat) (hk : k ≤ 16000) (hh : h ≤ k) : (blockOf D h k way).1 ≤ 68000 := by
  have := blk_ct D k way hk 20001 h h (0, fun _ => 0) (Nat.le_refl _) hh (Nat.zero_le _)
  unfold blockOf
  omega
theorem m_block {N kg ku kh way : Nat} (hN : 20010 < N) (hw : way ≤ 3) {win won whn wdn wfo wpn : Int32} {wif wof whf wdf wpf : Nat → Int32} {G U H : Nat → Nat} (hG : Mw kg win wif G) (hU : Mw ku won wof U) (hH : Mw kh whn whf H) : ∃ r won' wdn' wfo' wpn' wof' wdf' wpf', f_Mo_block N (nI way) win won whn wdn wfo wpn wif wof whf wdf wpf = some (r, won', wdn', wfo', wpn', wof', wdf', wpf') ∧ (((blockOf (catB H kh G 0) kh (kh + kg) way).1 ≤ 8000 ∧ r = nI (blockOf (catB H kh G 0) kh (kh + kg) way).1 ∧ Mw (blockOf (catB H kh G 0) kh (kh + kg) way).1 won' wof' (blockOf (catB H kh G 0) kh (kh + kg) way).2) ∨ (8000 < (blockOf (catB H kh G 0) kh (kh + kg) way).1 ∧ r = -1 ∧ won' = won ∧ wof' = wof)) := by
  have hg8 := hG.2.1
  have hh8 := hH.2.1
  obtain ⟨f1, e1, h1⟩ := m_begin (N := N) (by omega) hH wdf
  obtain ⟨f2, e2, h2⟩ := m_append (N := N) (by omega) hG (a := 0) (b := kg) (Nat.zero_le _) (Nat.le_refl _) h1 (by omega)
  rw [Nat.sub_zero] at e2 h2
  obtain ⟨w', f3, e3, h3⟩ := m_writeBlock hN hw h2 (h := kh) (by omega) wfo wpf
  have ct := block_ct (catB H kh G 0) way (show kh + kg ≤ 16000 by omega) (show kh ≤ kh + kg by omega)
  have e2 : f_Mo_append N 0 win (nI kh) wif f1 = some (nI (kh + kg), f2) := by rw [hG.1]; exact e2
  have e3 : f_Mo_writeBlock N whn (nI way) (nI (kh + kg)) wfo f2 wpf = some (w', nI (blockOf (catB H kh G 0) kh (kh + kg) way).1, f3) := by rw [hH.1]; exact e3
  unfold f_Mo_block
  rw [j_Mo_block_0, if_neg (nI_pos (by omega)), if_pos (show nI way ≤ 3 from nI_le (b := 3) hw (by decide)), bd2_of e1, bd2_of e2, bd3_of e3]
  generalize blockOf (catB H kh G 0) kh (kh + kg) way = S at h3 ct ⊢
  by_cases c : S.1 ≤ 8000
  · obtain ⟨f4, e4, h4⟩ := m_show (N := N) (won := won) (wof := wof) (aL := 9000) (by omega) c (by omega) (by omega) (fun j hj => h3.2 j hj (by omega))
    rw [bd3_of e4]
    exact ⟨_, _, _, _, _, _, _, _, rfl, Or.inl ⟨c, rfl, h4⟩⟩
  · rw [bd3_of (m_showNo (by omega) (by omega))]
    exact ⟨_, _, _, _, _, _, _, _, rfl, Or.inr ⟨by omega, rfl, rfl, rfl⟩⟩
