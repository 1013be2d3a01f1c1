/-! A frame, written by the class. -/
def tailF (fl : Nat) (G : Nat → Nat) (kg : Nat) (s : Sq) : Sq := if nI fl &&& (4 : Int32) = 0 then pushW s 0 else pushW (pushW s 0) (vN (sumS G 0 kg))
def rowsS (fl way cut : Nat) (H : Nat → Nat) (kh : Nat) (G : Nat → Nat) (kg : Nat) : Nat → Nat → Sq → Sq
  | 0, _, s => s
  | F + 1, a, s => if kg ≤ a then s else rowsS fl way cut H kh G kg F (a + cut) (rowS fl way H kh G a (min kg (a + cut)) s)
theorem rowsS_s (fl way cut : Nat) (H : Nat → Nat) (kh : Nat) (G : Nat → Nat) (kg F a : Nat) (s : Sq) : rowsS fl way cut H kh G kg (F + 1) a s = if kg ≤ a then s else rowsS fl way cut H kh G kg F (a + cut) (rowS fl way H kh G a (min kg (a + cut)) s) := by rw [rowsS]
theorem rowS_le (fl way : Nat) (H : Nat → Nat) (kh : Nat) (G : Nat → Nat) (a b : Nat) (s : Sq) : s.1 + 4 ≤ (rowS fl way H kh G a b s).1 := by
  have h : s.1 + 4 ≤ (bodyS fl way H kh G a b s).1 := by
    unfold bodyS
    split
    · show s.1 + 4 ≤ s.1 + 4 + _; omega
    · show s.1 + 4 ≤ s.1 + 4 + _; omega
  unfold rowS
  split
  · exact h
  · rw [pushW_1]; omega
theorem rowsS_le (fl way cut : Nat) (H : Nat → Nat) (kh : Nat) (G : Nat → Nat) (kg : Nat) : ∀ (F a : Nat) (s : Sq), s.1 ≤ (rowsS fl way cut H kh G kg F a s).1 := by
  intro F
  induction F with
  | zero => intro a s; rw [rowsS]; exact Nat.le_refl _
  | succ F ih =>
    intro a s
    rw [rowsS_s]
    split
    · exact Nat.le_refl _
    · have h1 := ih (a + cut) (rowS fl way H kh G a (min kg (a + cut)) s)
      have h2 := rowS_le fl way H kh G a (min kg (a + cut)) s
      omega
theorem tailF_le (fl : Nat) (G : Nat → Nat) (kg : Nat) (s : Sq) : s.1 ≤ (tailF fl G kg s).1 := by
  unfold tailF
  split
  · rw [pushW_1]; omega
  · rw [pushW_1, pushW_1]; omega
theorem o_tail {N fl kg : Nat} (hN : 20000 < N) {gn tn : Int32} {gf tf : Nat → Int32} {G : Nat → Nat} {s : Sq} (hG : Rw 8000 kg gn gf G) (hT : Rw 8000 s.1 tn tf s.2) : Out (tailF fl G kg s) (f_FW_addTail N (nI fl) gn gf tn tf) := by
  unfold f_FW_addTail tailF
  rw [j_FW_addTail_0]
  have o1 := o_word hT (0 : Int32)
  rw [show vN (0 : Int32) = 0 from rfl] at o1
  by_cases c : nI fl &&& (4 : Int32) = 0
  · rw [if_pos c]
    rcases o1 with ⟨h1, f', e, g⟩ | ⟨h1, k', n', f', B', e, g⟩
    · rw [bd3_of e, if_pos c, as_of (z_ok 1 (Or.inr rfl))]; exact Or.inl ⟨h1, f', rfl, g⟩
    · rw [bd3_of e, if_pos c, as_of (z_ok 0 (Or.inl rfl))]; exact Or.inr ⟨h1, k', n', f', B', rfl, g⟩
  · rw [if_neg c]
    rcases o1 with ⟨h1, f', e, g⟩ | ⟨h1, k', n', f', B', e, g⟩
    · have es : f_Sum_of N 8000 0 gn gn gf = some (sumS G 0 kg) := by
        have := s_sum hN hG (a := 0) (e := kg) (Nat.zero_le _) (Nat.le_refl _)
        rw [Nat.sub_zero, ← hG.1] at this
        exact this
      rw [bd3_of e, if_neg c, if_neg n10, bd1_of (s_count _), bd1_of es]
      exact (o_word g (sumS G 0 kg)).one
    · rw [bd3_of e, if_neg c, if_pos z00]
      exact Or.inr ⟨by rw [pushW_1]; omega, k', n', f', B', rfl, g⟩
theorem wf_88 {N fl kg : Nat} (hN : 20000 < N) {gn tn mc ms ml dn pkn : Int32} {gf tf df la ea pkf : Nat → Int32} {G : Nat → Nat} {s : Sq} (hG : Rw 8000 kg gn gf G) (hT : Rw 8000 s.1 tn tf s.2) : Out12 (tailF fl G kg s) mc ms ml dn df la ea pkn pkf (j_FW_writeFrame_88 N (nI fl) 1 gn gf tn tf mc ms ml dn df la ea pkn pkf) := by
  rw [j_FW_writeFrame_88, if_neg n10]
  rcases o_tail (fl := fl) hN hG hT with ⟨h1, f', e, g⟩ | ⟨h1, k', n', f', B', e, g⟩
  · rw [bd3_of e, if_neg n10]; exact Or.inl ⟨h1, f', rfl, g⟩
  · rw [bd3_of e, if_pos z00]; exact Or.inr ⟨h1, k', n', f', B', rfl, g⟩
def Wk3 (dn : Int32) (df : Nat → Int32) (pkn : Int32) (pkf : Nat → Int32) : Prop := (∃ k B, Rw 16000 k dn df B) ∧ ∃ k B, Rw 8000 k pkn pkf B
theorem Dat.wk {fl : Nat} {H : Nat → Nat} {kh : Nat} {G : Nat → Nat} {a : Nat} {mc dn : Int32} {df la ea : Nat → Int32} (h : Dat fl H kh G a mc dn df la ea) : ∃ k B, Rw 16000 k dn df B := by
  obtain ⟨kd, D, c, _, h1, _⟩ := h
  exact ⟨kd, D, h1⟩
theorem loop13_s {α1 α2 α3 α4 α5 α6 α7 α8 α9 α10 α11 α12 α13 ρ : Type} (b : (α1 → α2 → α3 → α4 → α5 → α6 → α7 → α8 → α9 → α10 → α11 → α12 → α13 → Option ρ) → α1 → α2 → α3 → α4 → α5 → α6 → α7 → α8 → α9 → α10 → α11 → α12 → α13 → Option ρ) (n : Nat) (x1 : α1) (x2 : α2) (x3 : α3) (x4 : α4) (x5 : α5) (x6 : α6) (x7 : α7) (x8 : α8) (x9 : α9) (x10 : α10) (x11 : α11) (x12 : α12) (x13 : α13) : loop13 b (n + 1) x1 x2 x3 x4 x5 x6 x7 x8 x9 x10 x11 x12 x13 = b (loop13 b n) x1 x2 x3 x4 x5 x6 x7 x8 x9 x10 x11 x12 x13 := rfl
theorem wf_loop {N fl kg kh way cut : Nat} (hN : 20010 < N) (hw : way ≤ 3) (hc1 : 1 ≤ cut) (hc8 : cut ≤ 8000) {gn hsn : Int32} {gf hsf : Nat → Int32} {G H : Nat → Nat} (hG : Rw 8000 kg gn gf G) (hH : Rw 8000 kh hsn hsf H) : ∀ (m fuel F a : Nat) (s : Sq) (tn mc ms ml dn pkn : Int32) (tf df la ea pkf : Nat → Int32), kg - a ≤ m → m + 1 < fuel → m < F → a ≤ 16000 → Rw 8000 s.1 tn tf s.2 → (∃ k B, Rw 8000 k pkn pkf B) → (∃ k B, Rw 16000 k dn df B) → (a < kg → Dat fl H kh G a mc dn df la ea) → ∃ mc' ms' ml' dn' df' la' ea' pkn' pkf', Out12 (tailF fl G kg (rowsS fl way cut H kh G kg F a s)) mc' ms' ml' dn' df' la' ea' pkn' pkf' (loop13 (b_FW_writeFrame_35 N (nI fl) (nI way) (nI cut) gn gf hsn) fuel 1 (nI a) tn tf mc ms ml dn df la ea pkn pkf) ∧ Wk3 dn' df' pkn' pkf' := by
  have hk := hG.2.1
  intro m
  induction m with
  | zero =>
    intro fuel F a s tn mc ms ml dn pkn tf df la ea pkf h1 h2 h3 ha hT hp hd hD
    obtain ⟨fuel, rfl⟩ : ∃ z, fuel = z + 1 := ⟨fuel - 1, by omega⟩
    obtain ⟨F, rfl⟩ : ∃ z, F = z + 1 := ⟨F - 1, by omega⟩
    rw [loop13_s, b_FW_writeFrame_35, bd1_of (s_count _), rowsS_s, if_pos (show kg ≤ a by omega), if_pos (show gn ≤ nI a from by rw [hG.1]; exact nI_le (by omega) (by omega))]
    exact ⟨_, _, _, _, _, _, _, _, _, wf_88 (by omega) hG hT, hd, hp⟩
  | succ m ih =>
    intro fuel F a s tn mc ms ml dn pkn tf df la ea pkf h1 h2 h3 ha hT hp hd hD
    by_cases c0 : kg ≤ a
    · exact ih fuel F a s tn mc ms ml dn pkn tf df la ea pkf (by omega) (by omega) (by omega) ha hT hp hd hD
    obtain ⟨fuel, rfl⟩ : ∃ z, fuel = z + 1 := ⟨fuel - 1, by omega⟩
    obtain ⟨F, rfl⟩ : ∃ z, F = z + 1 := ⟨F - 1, by omega⟩
    have em : mn gn (nI a + nI cut) = nI (min kg (a + cut)) := by rw [hG.1, nI_add, mn_nI (by omega) (by omega)]
    obtain ⟨mc', ms', ml', dn', df', la', ea', pkn', pkf', o, d, hp'⟩ := s_addRow (ms := ms) (ml := ml) hN hw (a := a) (b := min kg (a + cut)) (by omega) (by omega) hG hH hT hp (hD (by omega))
    rw [loop13_s, b_FW_writeFrame_35, bd1_of (s_count _), if_neg (show ¬ gn ≤ nI a from by rw [hG.1]; exact nI_ge (by omega) (by omega)), if_neg n10, bd1_of (s_count _), em, rowsS_s, if_neg c0, nI_add]
    rcases o with ⟨h4, f', e, g⟩ | ⟨h4, k', n', f', B', e, g⟩
    · rw [bd12_of e]
      exact ih fuel F (a + cut) _ _ mc' ms' ml' dn' pkn' f' df' la' ea' pkf' (by omega) (by omega) (by omega) (by omega) g hp' d.wk (fun z => by rw [show min kg (a + cut) = a + cut from by omega] at d; exact d)
    · rw [bd12_of e]
      obtain ⟨fuel, rfl⟩ : ∃ z, fuel = z + 1 := ⟨fuel - 1, by omega⟩
      have big1 := rowsS_le fl way cut H kh G kg F (a + cut) (rowS fl way H kh G a (min kg (a + cut)) s)
      have big2 := tailF_le fl G kg (rowsS fl way cut H kh G kg F (a + cut) (rowS fl way H kh G a (min kg (a + cut)) s))
      have e88 : j_FW_writeFrame_88 N (nI fl) 0 gn gf n' f' mc' ms' ml' dn' df' la' ea' pkn' pkf' = some (0, n', f', mc', ms', ml', dn', df', la', ea', pkn', pkf') := by rw [j_FW_writeFrame_88, if_pos z00]
      rw [loop13_s, b_FW_writeFrame_35, bd1_of (s_count _)]
      refine ⟨mc', ms', ml', dn', df', la', ea', pkn', pkf', Or.inr ⟨by omega, k', n', f', B', ?_, g⟩, d.wk, hp'⟩
      by_cases y : gn ≤ nI (a + cut)
      · rw [if_pos y, e88]
      · rw [if_neg y, if_pos z00, e88]
