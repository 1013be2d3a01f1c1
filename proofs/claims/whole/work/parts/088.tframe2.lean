/-! frame: the class's public method. -/
theorem t_frameNo {N : Nat} {x1 x2 x3 x4 x5 gn un hsn tn mc ms ml dn pkn : Int32} {gf uf hsf tf df la ea pkf : Nat → Int32} (h : frameNo x1 x2 x4 x5) : f_T_frame N x1 x2 x3 x4 x5 gn gf un uf hsn hsf tn tf mc ms ml dn df la ea pkn pkf = some (-1, un, uf, tn, tf, mc, ms, ml, dn, df, la, ea, pkn, pkf) := by
  unfold f_T_frame
  rw [j_T_frame_0, bd1_of (s_areFlags _)]
  by_cases a : x1 &&& (-62 : Int32) = 64
  · rw [if_pos a, if_neg n10, bd1_of s_isK]
    by_cases b : x2 < 4 ∨ 7 < x2
    · rw [if_pos b, if_pos z00]
    · rw [if_neg b, if_neg n10]
      by_cases c : x4 < 1
      · rw [if_pos c]
      · rw [if_neg c]
        by_cases d : 8000 < x4
        · rw [if_pos d]
        · rw [if_neg d, bd1_of s_isWay]
          have e : x5 < 0 ∨ 3 < x5 := by
            rcases h with h | h | h | h | h | h | h
            · exact absurd a h
            · exact absurd (Or.inl h) b
            · exact absurd (Or.inr h) b
            · exact absurd h c
            · exact absurd h d
            · exact Or.inl h
            · exact Or.inr h
          rw [if_pos e, if_pos z00]
  · rw [if_neg a, if_pos z00]
theorem t_frame {N fl k kg ku kh cut way : Nat} (hN : 20010 < N) (hfl : fl < 256) (hF : areF (nI fl)) (hk4 : 4 ≤ k) (hk7 : k ≤ 7) (hc1 : 1 ≤ cut) (hc8 : cut ≤ 8000) (hw : way ≤ 3) {key gn un hsn tn mc ms ml dn pkn : Int32} {gf uf hsf tf df la ea pkf : Nat → Int32} {G U H : Nat → Nat} (hG : Rw 8000 kg gn gf G) (hU : Rw 8000 ku un uf U) (hH : Rw 8000 kh hsn hsf H) (hk : Wk tn tf dn df) (hp : ∃ k B, Rw 8000 k pkn pkf B) : ∃ r un' uf' tn' tf' mc' ms' ml' dn' df' la' ea' pkn' pkf', f_T_frame N (nI fl) (nI k) key (nI cut) (nI way) gn gf un uf hsn hsf tn tf mc ms ml dn df la ea pkn pkf = some (r, un', uf', tn', tf', mc', ms', ml', dn', df', la', ea', pkn', pkf') ∧ Wk tn' tf' dn' df' ∧ (∃ k B, Rw 8000 k pkn' pkf' B) ∧ (((frameS fl k kg key cut way H kh G).1 ≤ 8000 ∧ r = nI (frameS fl k kg key cut way H kh G).1 ∧ Rw 8000 (frameS fl k kg key cut way H kh G).1 un' uf' (frameS fl k kg key cut way H kh G).2) ∨ (8000 < (frameS fl k kg key cut way H kh G).1 ∧ r = -1 ∧ un' = un ∧ uf' = uf)) := by
  obtain ⟨mc', ms', ml', dn', df', la', ea', pkn', pkf', o, hd', hp'⟩ := s_writeFrame (key := key) (ms := ms) (ml := ml) (la := la) (ea := ea) hN hfl (k := k) (by omega) hc1 hc8 hw hG hH hk.1 hk.2 hp
  unfold areF at hF
  unfold f_T_frame
  rw [j_T_frame_0, bd1_of (s_areFlags _), if_pos hF, if_neg n10, bd1_of s_isK, if_neg (show ¬ (nI k < 4 ∨ 7 < nI k) from fun z => z.elim (nI_nlt (b := 4) hk4 (by omega)) (nI_nlt (a := 7) hk7 (by decide))), if_neg n10, if_neg (show ¬ nI cut < 1 from nI_nlt (b := 1) hc1 (by omega)), if_neg (show ¬ 8000 < nI cut from nI_nlt (a := 8000) hc8 (by decide)), bd1_of s_isWay, if_neg (show ¬ (nI way < 0 ∨ 3 < nI way) from fun z => z.elim (nI_pos (by omega)) (nI_nlt (a := 3) hw (by decide))), if_neg n10]
  generalize frameS fl k kg key cut way H kh G = S at o ⊢
  rcases o with ⟨h1, f', e, g⟩ | ⟨h1, k', n', f', B', e, g⟩
  · obtain ⟨f2, e2, g2⟩ := s_keep hU g
    rw [bd12_of e, if_neg n10, bd3_of e2]
    exact ⟨_, _, _, _, _, _, _, _, _, _, _, _, _, _, rfl, ⟨⟨_, _, g⟩, hd'⟩, hp', Or.inl ⟨h1, rfl, g2⟩⟩
  · rw [bd12_of e, if_pos z00]
    exact ⟨_, _, _, _, _, _, _, _, _, _, _, _, _, _, rfl, ⟨⟨_, _, g⟩, hd'⟩, hp', Or.inr ⟨h1, rfl, rfl, rfl⟩⟩
