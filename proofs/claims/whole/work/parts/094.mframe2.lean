/-! frame: the model's public method. -/
theorem m_frameNo {N : Nat} {x1 x2 x3 x4 x5 win won whn wdn wfo wmn wpn : Int32} {wif wof whf wdf wmf wpf : Nat → Int32} {wlf : Nat → Int64} (h : frameNo x1 x2 x4 x5) : f_Mo_frame N x1 x2 x3 x4 x5 win won whn wdn wfo wmn wpn wif wof whf wdf wmf wpf wlf = some (-1, won, wdn, wfo, wmn, wpn, wof, wdf, wmf, wpf, wlf) := by
  unfold f_Mo_frame
  rw [j_Mo_frame_0, bd1_of (m_areFlags _)]
  by_cases a : x1 &&& (-62 : Int32) = 64
  · rw [if_pos a, if_neg n10]
    by_cases b : x2 < 4
    · rw [if_pos b]
    · rw [if_neg b]
      by_cases b2 : 7 < x2
      · rw [if_pos b2]
      · rw [if_neg b2]
        by_cases c : x4 < 1
        · rw [if_pos c]
        · rw [if_neg c]
          by_cases d : 8000 < x4
          · rw [if_pos d]
          · rw [if_neg d]
            by_cases e : x5 < 0
            · rw [if_pos e]
            · rw [if_neg e]
              have e3 : 3 < x5 := by
                rcases h with h | h | h | h | h | h | h
                · exact absurd a h
                · exact absurd h b
                · exact absurd h b2
                · exact absurd h c
                · exact absurd h d
                · exact absurd h e
                · exact h
              rw [if_neg (fun z => by
                have q1 := Int32.lt_iff_toInt_lt.mp e3
                have q2 := Int32.le_iff_toInt_le.mp z
                omega)]
  · rw [if_neg a, if_pos z00]
theorem m_frame {N fl k kg ku kh cut way : Nat} (hN : 20010 < N) (hfl : fl < 256) (hF : areF (nI fl)) (hk4 : 4 ≤ k) (hk7 : k ≤ 7) (hc1 : 1 ≤ cut) (hc8 : cut ≤ 8000) (hw : way ≤ 3) {key win won whn wdn wfo wmn wpn : Int32} {wif wof whf wdf wmf wpf : Nat → Int32} {wlf : Nat → Int64} {G U H : Nat → Nat} (hG : Mw kg win wif G) (hU : Mw ku won wof U) (hH : Mw kh whn whf H) : MFr (frameS fl k kg key cut way H kh G) won wof (f_Mo_frame N (nI fl) (nI k) key (nI cut) (nI way) win won whn wdn wfo wmn wpn wif wof whf wdf wmf wpf wlf) := by
  have hkg := hG.2.1
  have hm0 : Mp s0 0 wmf := ⟨rfl, fun j hj => absurd hj (Nat.not_lt_zero j)⟩
  obtain ⟨f1, e1, g1⟩ := m_num4 (N := N) (by omega) (407708164 : Int64) (w := 407708164) (by decide) hm0 (by show 0 < _; decide)
  obtain ⟨f2, e2, g2⟩ := m_make g1 (by show 4 < _; decide) (v := fl) hfl
  obtain ⟨f3, e3, g3⟩ := m_make g2 (by show 5 < _; decide) (v := 16 * k) (by omega)
  have e3 : f_Mo_make ((16 : Int32) * nI k) (nI ((pushW s0 407708164).1 + 1)) f2 = some (nI (hd1 fl k).1, f3) := by rw [show (16 : Int32) * nI k = nI (16 * k) from pk_mul 16 k]; exact e3
  have g3 : Mp (hd1 fl k) (nI (hd1 fl k).1) f3 := g3
  have c2 := hd2_ct fl k kg
  have c3 := hd3_ct fl k kg key
  have k106 : ∀ f, Mp (hd3 fl k kg key) (nI (hd3 fl k kg key).1) f → MFr (frameS fl k kg key cut way H kh G) won wof (j_Mo_frame_106 N (nI fl) (nI cut) (nI way) win won whn wdn wfo (nI (hd3 fl k kg key).1) wpn wif wof whf wdf f wpf wlf) := by
    intro f hf
    obtain ⟨wl', f', q1, q2, q3⟩ := m_106 (N := N) (by omega) hf (by omega) (by omega) wlf
    rw [j_Mo_frame_106, bd2_of q1, bd2_of q2]
    exact mf_loop hN hw hc1 hc8 hG hH kg N 20001 0 _ _ wdn wfo wpn wdf f' wpf wl' (by omega) (by omega) (by omega) (by omega) (by show (hd3 fl k kg key).1 + 1 ≤ _; omega) q3
  have k89 : ∀ f, Mp (hd2 fl k kg) (nI (hd2 fl k kg).1) f → MFr (frameS fl k kg key cut way H kh G) won wof (j_Mo_frame_89 N (nI fl) key (nI cut) (nI way) win won whn wdn wfo (nI (hd2 fl k kg).1) wpn wif wof whf wdf f wpf wlf) := by
    intro f hf
    rw [j_Mo_frame_89]
    by_cases c : nI fl &&& (1 : Int32) = 0
    · have e : hd3 fl k kg key = hd2 fl k kg := by unfold hd3; rw [if_pos c]
      rw [if_pos c, ← e]
      rw [← e] at hf
      exact k106 f hf
    · have e : hd3 fl k kg key = pushW (hd2 fl k kg) (vN key) := by unfold hd3; rw [if_neg c]
      obtain ⟨f5, e5, g5⟩ := m_num4 (N := N) (by omega) (key.toInt64 &&& (4294967295 : Int64)) (w := vN key) (wN_key key) hf (by omega)
      rw [← e] at e5 g5
      rw [if_neg c, bd2_of e5]
      exact k106 f5 g5
  unfold areF at hF
  unfold f_Mo_frame
  rw [j_Mo_frame_0, bd1_of (m_areFlags _), if_pos hF, if_neg n10, if_neg (show ¬ nI k < 4 from nI_nlt (b := 4) hk4 (by omega)), if_neg (show ¬ 7 < nI k from nI_nlt (a := 7) hk7 (by decide)), if_neg (show ¬ nI cut < 1 from nI_nlt (b := 1) hc1 (by omega)), if_neg (show ¬ 8000 < nI cut from nI_nlt (a := 8000) hc8 (by decide)), if_neg (nI_pos (by omega)), if_pos (show nI way ≤ 3 from nI_le (b := 3) hw (by decide)), bd2_of e1, bd2_of e2, bd2_of e3]
  by_cases c : nI fl &&& (8 : Int32) = 0
  · have e : hd2 fl k kg = hd1 fl k := by unfold hd2; rw [if_pos c]
    rw [if_pos c, ← e]
    rw [← e] at g3
    exact k89 f3 g3
  · have e : hd2 fl k kg = pushW (pushW (hd1 fl k) kg) 0 := by unfold hd2; rw [if_neg c]
    obtain ⟨f5, e5, g5⟩ := m_num8 (N := N) (by omega) (k := kg) (by omega) g3 (by rw [hd1_ct]; decide)
    rw [← e] at e5 g5
    rw [if_neg c, hG.1, nI_l (by omega), bd2_of e5, ← hG.1]
    exact k89 f5 g5
