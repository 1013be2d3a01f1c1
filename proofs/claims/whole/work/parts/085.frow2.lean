/-! A frame's row: the class, whole. -/
def bodyP (P : Sq) (G : Nat → Nat) (a b : Nat) (s : Sq) : Sq := if P.1 < b - a then lits P.2 0 P.1 (pushW s P.1) else lits G a b (pushW s (2147483648 + (b - a)))
def rowP (fl : Nat) (P : Sq) (G : Nat → Nat) (a b : Nat) (s : Sq) : Sq := if nI fl &&& (16 : Int32) = 0 then bodyP P G a b s else pushW (bodyP P G a b s) (vN (sumS (bodyP P G a b s).2 (s.1 + 4) ((bodyP P G a b s).1 - (s.1 + 4))))
theorem rowP_eq (fl way : Nat) (H : Nat → Nat) (kh : Nat) (G : Nat → Nat) (a b : Nat) (s : Sq) : rowS fl way H kh G a b s = rowP fl (partS fl way H kh G a b) G a b s := rfl
theorem row_14 {N fl kg way ke c : Nat} (hN : 20010 < N) (hw : way ≤ 3) {a b : Nat} (hab : a ≤ b) (hb : b ≤ kg) {s : Sq} {gn tn ms ml dn pkn : Int32} {gf tf df la ea pkf : Nat → Int32} {G E : Nat → Nat} (hG : Rw 8000 kg gn gf G) (hT : Rw 8000 s.1 tn tf s.2) (hp : ∃ k B, Rw 8000 k pkn pkf B) (hE : Rw 16000 ke dn df E) (hC : ChOK E ke c la ea) (hc : c ≤ ke) (hr : ke + (b - a) ≤ 16000) : ∃ mc' ms' ml' dn' df' la' ea' pkn' pkf', Out12 (rowP fl (blockOf (catB E ke G a) ke (ke + (b - a)) way) G a b s) mc' ms' ml' dn' df' la' ea' pkn' pkf' (j_FW_addRow_14 N (nI a) (nI b) (nI fl) (nI way) gn gf tn tf (nI c) ms ml dn df la ea pkn pkf) ∧ Rw 16000 (ke + (b - a)) dn' df' (catB E ke G a) ∧ (∃ c', mc' = nI c' ∧ ChOK (catB E ke G a) (ke + (b - a)) c' la' ea' ∧ c' ≤ ke + (b - a)) ∧ ∃ k B, Rw 8000 k pkn' pkf' B := by
  have hk := hG.2.1
  obtain ⟨kp, PB, hp⟩ := hp
  obtain ⟨e1, hp0⟩ := s_cut0 hp
  obtain ⟨df', hD', c', ms', ml', la', ea', hC', hout⟩ := s_pack (ms := ms) (ml := ml) hN hw hE hG hab hb hr hp0 hC hc
  have hc' : c' ≤ ke + (b - a) := by rcases hC'.2 with h | h <;> omega
  generalize blockOf (catB E ke G a) ke (ke + (b - a)) way = P at hout ⊢
  rw [j_FW_addRow_14, bd1_of e1, pk_sub hab]
  have fin : ∀ (sh : Bool) (pkn' : Int32) (pkf' : Nat → Int32), (sh = true ↔ P.1 < b - a) → (sh = true → pkn' = nI P.1 ∧ Rw 8000 P.1 (nI P.1) pkf' P.2) → Out12 (rowP fl P G a b s) (nI c') ms' ml' (nI (ke + (b - a))) df' la' ea' pkn' pkf' (j_FW_addRow_92 N (nI a) (nI b) (nI fl) (if sh = true then 1 else 0) (if sh = true then pkn' else nI (b - a) ||| (-2147483648 : Int32)) gn gf tn tf (nI c') ms' ml' (nI (ke + (b - a))) df' la' ea' pkn' pkf') := by
    intro sh pkn' pkf' h1 h2
    have q := row_92 (N := N) (fl := fl) (by omega) hab hb (mc := nI c') (ms := ms') (ml := ml') (dn := nI (ke + (b - a))) (df := df') (la := la') (ea := ea') hG hT sh h2
    have eb : (if sh = true then lits P.2 0 P.1 (pushW s P.1) else lits G a b (pushW s (2147483648 + (b - a)))) = bodyP P G a b s := by
      unfold bodyP
      by_cases x : P.1 < b - a
      · rw [if_pos x, if_pos (h1.mpr x)]
      · rw [if_neg x, if_neg (fun z => x (h1.mp z))]
    rw [eb] at q
    exact q
  rcases hout with ⟨h1, f', e3, h2⟩ | ⟨h1, k', n', f', B', e3, h2⟩
  · rw [bd10_of e3, if_neg n10, bd1_of (s_count _)]
    by_cases x : P.1 < b - a
    · rw [if_neg (nI_ge x (by omega)), j_FW_addRow_66, if_neg n10, bd1_of (s_count _)]
      exact ⟨_, _, _, _, _, _, _, _, _, fin true (nI P.1) f' ⟨fun _ => x, fun _ => rfl⟩ (fun _ => ⟨rfl, h2⟩), hD', ⟨c', rfl, hC', hc'⟩, _, _, h2⟩
    · rw [if_pos (nI_le (by omega) (by omega)), j_FW_addRow_65, j_FW_addRow_66, if_pos z00]
      exact ⟨_, _, _, _, _, _, _, _, _, fin false (nI P.1) f' ⟨fun z => absurd z (by decide), fun z => absurd z x⟩ (fun z => absurd z (by decide)), hD', ⟨c', rfl, hC', hc'⟩, _, _, h2⟩
  · rw [bd10_of e3, if_pos z00, j_FW_addRow_65, j_FW_addRow_66, if_pos z00]
    exact ⟨_, _, _, _, _, _, _, _, _, fin false n' f' ⟨fun z => absurd z (by decide), fun z => by omega⟩ (fun z => absurd z (by decide)), hD', ⟨c', rfl, hC', hc'⟩, _, _, h2⟩
theorem s_addRow {N fl kg kh way : Nat} (hN : 20010 < N) (hw : way ≤ 3) {a b : Nat} (hab : a ≤ b) (hb : b ≤ kg) {s : Sq} {gn tn mc ms ml dn hsn pkn : Int32} {gf tf df la ea hsf pkf : Nat → Int32} {G H : Nat → Nat} (hG : Rw 8000 kg gn gf G) (hH : Rw 8000 kh hsn hsf H) (hT : Rw 8000 s.1 tn tf s.2) (hp : ∃ k B, Rw 8000 k pkn pkf B) (hD : Dat fl H kh G a mc dn df la ea) : ∃ mc' ms' ml' dn' df' la' ea' pkn' pkf', Out12 (rowS fl way H kh G a b s) mc' ms' ml' dn' df' la' ea' pkn' pkf' (f_FW_addRow N (nI a) (nI b) (nI fl) (nI way) gn gf tn tf mc ms ml dn df la ea hsn pkn pkf) ∧ Dat fl H kh G b mc' dn' df' la' ea' ∧ ∃ k B, Rw 8000 k pkn' pkf' B := by
  have hk := hG.2.1
  have hkh := hH.2.1
  obtain ⟨kd, D, c, rfl, h1, h2, h3, h4, h5, h6⟩ := hD
  unfold f_FW_addRow
  rw [j_FW_addRow_0, rowP_eq]
  by_cases x : nI fl &&& (32 : Int32) = 0
  · obtain ⟨rfl, h7⟩ := h6 x
    rw [if_pos x]
    have q := row_14 (fl := fl) (ms := ms) (ml := ml) hN hw hab hb hG hT hp (h1.congr h7) (h4.data (Nat.le_refl _) h7) h5 (by omega)
    rw [cat_cat, show kh + a + (b - a) = kh + b from by omega] at q
    obtain ⟨mc', ms', ml', dn', df', la', ea', pkn', pkf', q1, q2, ⟨c', rfl, q3, q4⟩, q5⟩ := q
    have eP : partS fl way H kh G a b = blockOf (catB H kh G 0) (kh + a) (kh + b) way := by unfold partS; rw [if_pos x]
    rw [eP]
    exact ⟨_, _, _, _, _, _, _, _, _, q1, ⟨kh + b, _, c', rfl, q2, by omega, fun j hj => by unfold catB; rw [if_pos hj], q3, q4, fun _ => ⟨rfl, fun _ _ => rfl⟩⟩, q5⟩
  · rw [if_neg x]
    obtain ⟨c1, la1, e1, g1, g2, g3⟩ := s_drop (N := N) (by omega) h1 h2 hH.1 h4 h5
    rw [bd3_of e1]
    have q := row_14 (fl := fl) (ms := ms) (ml := ml) hN hw hab hb hG hT hp (g1.congr h3) (g2.data (Nat.le_refl _) h3) g3 (by omega)
    obtain ⟨mc', ms', ml', dn', df', la', ea', pkn', pkf', q1, q2, ⟨c', rfl, q3, q4⟩, q5⟩ := q
    have eP : partS fl way H kh G a b = blockOf (catB H kh G a) kh (kh + (b - a)) way := by unfold partS; rw [if_neg x]
    rw [eP]
    exact ⟨_, _, _, _, _, _, _, _, _, q1, ⟨kh + (b - a), _, c', rfl, q2, by omega, fun j hj => by unfold catB; rw [if_pos hj], q3, q4, fun z => absurd z x⟩, q5⟩
